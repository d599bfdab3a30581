/-! The class reads the ways, and all -/
section Z62
variable {N ca cb cs c j d n i h W P : Nat} {C C2 : zq_I} {f : Nat → Int32} {hl : zq_J} {S : zq_S} {hr : zq_O} {Q : Option Value → zq_G → Prop} {x z u : Int32}
theorem k_Reader_ways (hc : c = 36 ∨ c = 45) (hj : j < 4) (hn : n ≤ 60) (hP : P ≤ 3) : ∀ m W, W + m = 7 → ∀ i (kd tb nd : Nat → Nat) C (v1 v5 v6 v7 : Value), i ≤ n → CtW C c (W, kd, tb, nd) → wok P (W, kd, tb, nd) → C c 9 = nI P → C (15 + 2 * j) 1 = nI n → C (15 + 1 + 2 * j) = f →
    ∃ C', (∀ y, y < c ∨ c + 8 < y → C' y = C y) ∧ (C' c 8 = C c 8 ∧ C' c 9 = C c 9 ∧ C' (c + 1) = C (c + 1) ∧ C' (c + 2) = C (c + 2)) ∧ ((∃ q, wys f n P m i (W, kd, tb, nd) = .inl q ∧ ∀ Q, zq_P (d + 4) 32 5 [.ref (15 + 2 * j), v1, .ref c, .int (nI i), .int (nI W), v5, v6, v7] [] (zq_SG N, C, hl, zq_HR ca cb cs) Q = Q (some (.int (nI q))) (zq_SG N, C', hl, zq_HR ca cb cs)) ∨
      ∃ i' s, wys f n P m i (W, kd, tb, nd) = .inr (i', s) ∧ i' ≤ n ∧ s.1 ≤ 7 ∧ wok P s ∧ CtW C' c s ∧ ∀ Q, zq_P (d + 4) 32 5 [.ref (15 + 2 * j), v1, .ref c, .int (nI i), .int (nI W), v5, v6, v7] [] (zq_SG N, C, hl, zq_HR ca cb cs) Q = Q (some (.int (if i' < n ∨ s.1 = 0 then nI i' else -9))) (zq_SG N, C', hl, zq_HR ca cb cs)) := by
  have hs := zq_Ss_texts (N := N) (ca := ca) (cb := cb) (cs := cs)
  have hsp := (hs.2 j hj).2
  have hct := zq_Ct_ok (N := N) (ca := ca) (cb := cb) (cs := cs) hc
  have h8 := zb_p8 P hP
  have p0 : 0 < 2 ^ P := Nat.pow_pos (by omega)
  -- the end of the loop
  have fin : ∀ (W i : Nat) C (v1 v4 v5 v6 v7 : Value), W ≤ 7 → i ≤ n → C c 10 = nI W → C (15 + 2 * j) 1 = nI n → ∀ Q, zq_P (d + 4) 32 103 [.ref (15 + 2 * j), v1, .ref c, .int (nI i), v4, v5, v6, v7] [] (zq_SG N, C, hl, zq_HR ca cb cs) Q = Q (some (.int (if i < n ∨ W = 0 then nI i else -9))) (zq_SG N, C, hl, zq_HR ca cb cs) := by
    intro W i C v1 v4 v5 v6 v7 hW hi h10 e1 Q
    have eW : (nI W = 0) = (W = 0) := zb_eq (b := 0) (by omega) (by omega)
    have ei : (nI i < nI n) = (i < n) := zb_lt (by omega) (by omega)
    simp only [zr32_0, zr32_1, zr32_2, zr32_3, zr32_7, zr32_9, zr32_12, zr32_13, zr32_14, zr32_17, zr32_20, zr32_21, zr32_22, zr32_25, zr32_28, zr32_30, zr32_32, zr32_35, zr32_36, zr32_37, zr32_38, zr32_39, zr32_40, zr32_41, zr32_43, zr32_46, zr32_48, zr32_50, zr32_53, zr32_54, zr32_55, zr32_56, zr32_57, zr32_58, zr32_59, zr32_60, zr32_61, zr32_62, zr32_65, zr32_68, zr32_70, zr32_72, zr32_75, zr32_76, zr32_77, zr32_78, zr32_79, zr32_80, zr32_82, zr32_84, zr32_86, zr32_89, zr32_90, zr32_91, zr32_92, zr32_93, zr32_96, zr32_97, zr32_100, zr32_103, zr32_104, zr32_105, zr32_108, zr32_111, zr32_112, zr32_115, zr32_118, zr32_119, zr32_122, zr32_124, hsp.1, hct.1, zq_kill_int, zq_kill_ref, zq_kill_ret, zq_kill_null, zq_kill_long, zq_rf_some, zq_rf_none, true_and, and_true, true_implies, not_true_eq_false, not_false_eq_true, false_implies, Bool.true_eq_false, Bool.false_eq_true, nI_1, zb_i0, zb_i1, zb_i2, Option.toList_some, Option.toList_none, List.cons_append, List.nil_append, true_or, or_true, implies_true, zb_it, zb_if, zb_10, zb_00, zb_n5, zb_n2, zb_m1, zb_m3, zb_m9, or_true, true_or, or_false, false_or, e1, h10, eW, ei]
    by_cases q1 : i < n
    · simp [q1]
    · by_cases q2 : W = 0 <;> simp [q1, q2]
  intro m
  induction m with
  | zero =>
    intro W hW i kd tb nd C v1 v5 v6 v7 hi hw hk h9 e1 e2
    have q7 : (nI W < 7) = False := eq_false (nI_nlt (b := 7) (by omega) (by omega))
    refine ⟨C, fun _ _ => rfl, ⟨rfl, rfl, rfl, rfl⟩, Or.inr ⟨i, (W, kd, tb, nd), rfl, hi, by show W ≤ 7; omega, hk, hw, fun Q => ?_⟩⟩
    rw [zr32_5]
    simp only [zr32_0, zr32_1, zr32_2, zr32_3, zr32_7, zr32_9, zr32_12, zr32_13, zr32_14, zr32_17, zr32_20, zr32_21, zr32_22, zr32_25, zr32_28, zr32_30, zr32_32, zr32_35, zr32_36, zr32_37, zr32_38, zr32_39, zr32_40, zr32_41, zr32_43, zr32_46, zr32_48, zr32_50, zr32_53, zr32_54, zr32_55, zr32_56, zr32_57, zr32_58, zr32_59, zr32_60, zr32_61, zr32_62, zr32_65, zr32_68, zr32_70, zr32_72, zr32_75, zr32_76, zr32_77, zr32_78, zr32_79, zr32_80, zr32_82, zr32_84, zr32_86, zr32_89, zr32_90, zr32_91, zr32_92, zr32_93, zr32_96, zr32_97, zr32_100, zr32_104, zr32_105, zr32_108, zr32_111, zr32_112, zr32_115, zr32_118, zr32_119, zr32_122, zr32_124, zq_kill_int, zq_kill_ref, zq_kill_ret, zq_kill_null, zq_kill_long, zq_rf_some, zq_rf_none, true_and, and_true, true_implies, not_true_eq_false, not_false_eq_true, false_implies, Bool.true_eq_false, Bool.false_eq_true, nI_1, zb_i0, zb_i1, zb_i2, Option.toList_some, Option.toList_none, List.cons_append, List.nil_append, true_or, or_true, implies_true, zb_it, zb_if, zb_10, zb_00, zb_n5, zb_n2, zb_m1, zb_m3, zb_m9, or_true, true_or, or_false, false_or, q7]
    exact fin W i C v1 _ v5 v6 v7 (by omega) hi hw.1 e1 Q
  | succ m ih =>
    intro W hW i kd tb nd C v1 v5 v6 v7 hi hw hk h9 e1 e2
    have q7 : (nI W < 7) = True := eq_true ((nI_ltI (b := 7) (by omega) (by omega)).mpr (by omega))
    have bt := fun Q => k_Strip_byteAt (d := d + 2) (hl := hl) (Q := Q) hsp e1 hn e2 (show i ≤ 1000 by omega)
    have f9 : ∀ Q, zq_P (d + 3) 30 0 [.ref (15 + 2 * j), .int (nI (i + 1)), .int 9, .retAddr 0] [] (zq_SG N, C, hl, zq_HR ca cb cs) Q = Q (some (.int (ddi (fgv f n (i + 1) 9)))) (zq_SG N, C, hl, zq_HR ca cb cs) := fun Q => k_Reader_figure (d := d + 1) (h := 9) hsp e1 hn e2 (by omega) (by omega)
    have fP : ∀ Q, zq_P (d + 3) 30 0 [.ref (15 + 2 * j), .int (nI (i + 2)), .int (nI (2 ^ P - 1)), .retAddr 0] [] (zq_SG N, C, hl, zq_HR ca cb cs) Q = Q (some (.int (ddi (fgv f n (i + 2) (2 ^ P - 1))))) (zq_SG N, C, hl, zq_HR ca cb cs) := fun Q => k_Reader_figure (d := d + 1) (h := 2 ^ P - 1) hsp e1 hn e2 (by omega) (by omega)
    have ev := fun Q => k_Court_everybody (d := d + 3) (hl := hl) (Q := Q) hct h9 hP
    rw [wys_s]
    by_cases q : i < n
    · rw [if_pos q]
      have q1 : (nI i < nI n) = True := eq_true ((nI_ltI (by omega) (by omega)).mpr q)
      have eb : bya f n i = f i := if_pos q
      cases hkb : kb (f i) with
      | none =>
        refine ⟨C, fun _ _ => rfl, ⟨rfl, rfl, rfl, rfl⟩, Or.inl ⟨i, rfl, fun Q => ?_⟩⟩
        rw [zr32_5]
        simp only [zr32_0, zr32_1, zr32_2, zr32_3, zr32_7, zr32_9, zr32_12, zr32_13, zr32_14, zr32_17, zr32_20, zr32_21, zr32_22, zr32_25, zr32_28, zr32_30, zr32_32, zr32_35, zr32_36, zr32_37, zr32_38, zr32_39, zr32_40, zr32_41, zr32_43, zr32_46, zr32_48, zr32_50, zr32_53, zr32_54, zr32_55, zr32_56, zr32_57, zr32_58, zr32_59, zr32_60, zr32_61, zr32_62, zr32_65, zr32_68, zr32_70, zr32_72, zr32_75, zr32_76, zr32_77, zr32_78, zr32_79, zr32_80, zr32_82, zr32_84, zr32_86, zr32_89, zr32_90, zr32_91, zr32_92, zr32_93, zr32_96, zr32_97, zr32_100, zr32_104, zr32_105, zr32_108, zr32_111, zr32_112, zr32_115, zr32_118, zr32_119, zr32_122, zr32_124, hsp.1, zq_kill_int, zq_kill_ref, zq_kill_ret, zq_kill_null, zq_kill_long, zq_rf_some, zq_rf_none, true_and, and_true, true_implies, not_true_eq_false, not_false_eq_true, false_implies, Bool.true_eq_false, Bool.false_eq_true, nI_1, zb_i0, zb_i1, zb_i2, Option.toList_some, Option.toList_none, List.cons_append, List.nil_append, true_or, or_true, implies_true, zb_it, zb_if, zb_10, zb_00, zb_n5, zb_n2, zb_m1, zb_m3, zb_m9, or_true, true_or, or_false, false_or, q7, e1, q1, bt, eb, k_Reader_kindBy, hkb, ddi_n]
      | some k =>
        have k5 := kb_le hkb
        have k0 : (nI k < 0) = False := eq_false (nI_pos (by omega))
        dsimp only
        cases h9' : fgv f n (i + 1) 9 with
        | none =>
          rw [h9'] at f9
          refine ⟨C, fun _ _ => rfl, ⟨rfl, rfl, rfl, rfl⟩, Or.inl ⟨i + 1, rfl, fun Q => ?_⟩⟩
          rw [zr32_5]
          simp only [zr32_0, zr32_1, zr32_2, zr32_3, zr32_7, zr32_9, zr32_12, zr32_13, zr32_14, zr32_17, zr32_20, zr32_21, zr32_22, zr32_25, zr32_28, zr32_30, zr32_32, zr32_35, zr32_36, zr32_37, zr32_38, zr32_39, zr32_40, zr32_41, zr32_43, zr32_46, zr32_48, zr32_50, zr32_53, zr32_54, zr32_55, zr32_56, zr32_57, zr32_58, zr32_59, zr32_60, zr32_61, zr32_62, zr32_65, zr32_68, zr32_70, zr32_72, zr32_75, zr32_76, zr32_77, zr32_78, zr32_79, zr32_80, zr32_82, zr32_84, zr32_86, zr32_89, zr32_90, zr32_91, zr32_92, zr32_93, zr32_96, zr32_97, zr32_100, zr32_104, zr32_105, zr32_108, zr32_111, zr32_112, zr32_115, zr32_118, zr32_119, zr32_122, zr32_124, hsp.1, zq_kill_int, zq_kill_ref, zq_kill_ret, zq_kill_null, zq_kill_long, zq_rf_some, zq_rf_none, true_and, and_true, true_implies, not_true_eq_false, not_false_eq_true, false_implies, Bool.true_eq_false, Bool.false_eq_true, nI_1, zb_i0, zb_i1, zb_i2, Option.toList_some, Option.toList_none, List.cons_append, List.nil_append, true_or, or_true, implies_true, zb_it, zb_if, zb_10, zb_00, zb_n5, zb_n2, zb_m1, zb_m3, zb_m9, or_true, true_or, or_false, false_or, q7, e1, q1, bt, eb, k_Reader_kindBy, hkb, ddi_w, k0, f9, ddi_n]
        | some t =>
          rw [h9'] at f9
          obtain ⟨t1, t2, -⟩ := fgv_some (by omega) h9'
          have t0 : (nI t < 0) = False := eq_false (nI_pos (by omega))
          dsimp only
          cases hq : fgv f n (i + 2) (2 ^ P - 1) with
          | none =>
            rw [hq] at fP
            refine ⟨C, fun _ _ => rfl, ⟨rfl, rfl, rfl, rfl⟩, Or.inl ⟨i + 2, rfl, fun Q => ?_⟩⟩
            rw [zr32_5]
            simp only [zr32_0, zr32_1, zr32_2, zr32_3, zr32_7, zr32_9, zr32_12, zr32_13, zr32_14, zr32_17, zr32_20, zr32_21, zr32_22, zr32_25, zr32_28, zr32_30, zr32_32, zr32_35, zr32_36, zr32_37, zr32_38, zr32_39, zr32_40, zr32_41, zr32_43, zr32_46, zr32_48, zr32_50, zr32_53, zr32_54, zr32_55, zr32_56, zr32_57, zr32_58, zr32_59, zr32_60, zr32_61, zr32_62, zr32_65, zr32_68, zr32_70, zr32_72, zr32_75, zr32_76, zr32_77, zr32_78, zr32_79, zr32_80, zr32_82, zr32_84, zr32_86, zr32_89, zr32_90, zr32_91, zr32_92, zr32_93, zr32_96, zr32_97, zr32_100, zr32_104, zr32_105, zr32_108, zr32_111, zr32_112, zr32_115, zr32_118, zr32_119, zr32_122, zr32_124, hsp.1, hct.1, zq_kill_int, zq_kill_ref, zq_kill_ret, zq_kill_null, zq_kill_long, zq_rf_some, zq_rf_none, true_and, and_true, true_implies, not_true_eq_false, not_false_eq_true, false_implies, Bool.true_eq_false, Bool.false_eq_true, nI_1, zb_i0, zb_i1, zb_i2, Option.toList_some, Option.toList_none, List.cons_append, List.nil_append, true_or, or_true, implies_true, zb_it, zb_if, zb_10, zb_00, zb_n5, zb_n2, zb_m1, zb_m3, zb_m9, or_true, true_or, or_false, false_or, q7, e1, q1, bt, eb, k_Reader_kindBy, hkb, ddi_w, k0, f9, t0, ev, zb_p2, fP, ddi_n]
          | some u =>
            rw [hq] at fP
            obtain ⟨u1, u2, -⟩ := fgv_some (by omega) hq
            have u0 : (nI u < 0) = False := eq_false (nI_pos (by omega))
            have aw := fun Q => k_Court_addWay (d := d + 1) (hl := hl) (Q := Q) (x := nI k) (z := nI t) (u := nI u) hct hw.1 (by omega)
            generalize hC1 : zq_u (zq_u (zq_u (zq_u (zq_u (zq_u (zq_u C (c + 3) W (nI k)) (c + 4) W (nI t)) (c + 5) W (nI u)) (c + 6) W (zm_tb (nI k) (nI t))) (c + 7) W (zm_nb (nI k) (nI u))) (c + 8) W (rsk (nI k) (C c 8))) c 10 (nI (W + 1)) = C1 at aw
            have o1 : ∀ y, y < c ∨ c + 8 < y → C1 y = C y := fun y hy => by rw [← hC1, zq_u_ne (by omega), zq_u_ne (by omega), zq_u_ne (by omega), zq_u_ne (by omega), zq_u_ne (by omega), zq_u_ne (by omega), zq_u_ne (by omega)]
            have oc : ∀ y, y ≠ 10 → C1 c y = C c y := fun y hy => by rw [← hC1, zq_u_kn hy, zq_u_ne (by omega), zq_u_ne (by omega), zq_u_ne (by omega), zq_u_ne (by omega), zq_u_ne (by omega), zq_u_ne (by omega)]
            have o12 : ∀ y, y = c + 1 ∨ y = c + 2 → C1 y = C y := fun y hy => by rw [← hC1, zq_u_ne (by omega), zq_u_ne (by omega), zq_u_ne (by omega), zq_u_ne (by omega), zq_u_ne (by omega), zq_u_ne (by omega), zq_u_ne (by omega)]
            have bl := fun Q => k_Reader_blanks (d := d + 1) (hl := hl) (Q := Q) (C := C1) (f := f) (n := n) (i := i + 3) hsp (by rw [o1 _ (by omega)]; exact e1) hn (by rw [o1 _ (by omega)]; exact e2) (by omega)
            have new : CtW C1 c (W + 1, upn kd W k, upn tb W t, upn nd W u) := by
              refine ⟨by rw [← hC1]; exact zq_u_eq, fun w hw' => ?_⟩
              dsimp only at hw' ⊢
              by_cases ew : w = W
              · subst ew
                rw [upn_eq, upn_eq, upn_eq, oc 8 (by omega), ← hC1]
                simp [zq_u]
              · rw [upn_ne ew, upn_ne ew, upn_ne ew, oc 8 (by omega)]
                have old := hw.2 w (by show w < W; omega)
                dsimp only at old
                rw [← hC1]
                simpa [zq_u, ew] using old
            obtain ⟨C', m1, ⟨m2, m3, m4, m5⟩, m6⟩ := ih (W + 1) (by omega) (skp f n (i + 3)) (upn kd W k) (upn tb W t) (upn nd W u) C1 v1 (.int (nI k)) (.int (nI t)) (.int (nI u)) (sk_le _ _ (by omega)) new (fun w hw' => by
              dsimp only at hw' ⊢
              by_cases ew : w = W
              · subst ew; rw [upn_eq, upn_eq, upn_eq]; exact ⟨k5, t2, by omega⟩
              · rw [upn_ne ew, upn_ne ew, upn_ne ew]; exact hk w (by show w < W; omega)) (by rw [oc 9 (by omega)]; exact h9) (by rw [o1 _ (by omega)]; exact e1) (by rw [o1 _ (by omega)]; exact e2)
            have step : ∀ Q, zq_P (d + 4) 32 5 [.ref (15 + 2 * j), v1, .ref c, .int (nI i), .int (nI W), v5, v6, v7] [] (zq_SG N, C, hl, zq_HR ca cb cs) Q = zq_P (d + 4) 32 5 [.ref (15 + 2 * j), v1, .ref c, .int (nI (skp f n (i + 3))), .int (nI (W + 1)), .int (nI k), .int (nI t), .int (nI u)] [] (zq_SG N, C1, hl, zq_HR ca cb cs) Q := fun Q => by
              rw [zr32_5]
              simp only [zr32_0, zr32_1, zr32_2, zr32_3, zr32_7, zr32_9, zr32_12, zr32_13, zr32_14, zr32_17, zr32_20, zr32_21, zr32_22, zr32_25, zr32_28, zr32_30, zr32_32, zr32_35, zr32_36, zr32_37, zr32_38, zr32_39, zr32_40, zr32_41, zr32_43, zr32_46, zr32_48, zr32_50, zr32_53, zr32_54, zr32_55, zr32_56, zr32_57, zr32_58, zr32_59, zr32_60, zr32_61, zr32_62, zr32_65, zr32_68, zr32_70, zr32_72, zr32_75, zr32_76, zr32_77, zr32_78, zr32_79, zr32_80, zr32_82, zr32_84, zr32_86, zr32_89, zr32_90, zr32_91, zr32_92, zr32_93, zr32_96, zr32_97, zr32_100, zr32_104, zr32_105, zr32_108, zr32_111, zr32_112, zr32_115, zr32_118, zr32_119, zr32_122, zr32_124, hsp.1, hct.1, zq_kill_int, zq_kill_ref, zq_kill_ret, zq_kill_null, zq_kill_long, zq_rf_some, zq_rf_none, true_and, and_true, true_implies, not_true_eq_false, not_false_eq_true, false_implies, Bool.true_eq_false, Bool.false_eq_true, nI_1, zb_i0, zb_i1, zb_i2, Option.toList_some, Option.toList_none, List.cons_append, List.nil_append, true_or, or_true, implies_true, zb_it, zb_if, zb_10, zb_00, zb_n5, zb_n2, zb_m1, zb_m3, zb_m9, or_true, true_or, or_false, false_or, q7, e1, q1, bt, eb, k_Reader_kindBy, hkb, ddi_w, k0, f9, t0, ev, zb_p2, fP, u0, aw, zb_p3, bl]
            refine ⟨C', fun y hy => (m1 y hy).trans (o1 y hy), ⟨m2.trans (oc 8 (by omega)), m3.trans (oc 9 (by omega)), m4.trans (o12 _ (Or.inl rfl)), m5.trans (o12 _ (Or.inr rfl))⟩, ?_⟩
            rcases m6 with ⟨q, k1, k2⟩ | ⟨i', s, k1, k2, k3, k4, k5, k6⟩
            · exact Or.inl ⟨q, k1, fun Q => (step Q).trans (k2 Q)⟩
            · exact Or.inr ⟨i', s, k1, k2, k3, k4, k5, fun Q => (step Q).trans (k6 Q)⟩
    · rw [if_neg q]
      have q1 : (nI i < nI n) = False := eq_false (nI_nlt (by omega) (by omega))
      refine ⟨C, fun _ _ => rfl, ⟨rfl, rfl, rfl, rfl⟩, Or.inr ⟨i, (W, kd, tb, nd), rfl, hi, by show W ≤ 7; omega, hk, hw, fun Q => ?_⟩⟩
      rw [zr32_5]
      simp only [zr32_0, zr32_1, zr32_2, zr32_3, zr32_7, zr32_9, zr32_12, zr32_13, zr32_14, zr32_17, zr32_20, zr32_21, zr32_22, zr32_25, zr32_28, zr32_30, zr32_32, zr32_35, zr32_36, zr32_37, zr32_38, zr32_39, zr32_40, zr32_41, zr32_43, zr32_46, zr32_48, zr32_50, zr32_53, zr32_54, zr32_55, zr32_56, zr32_57, zr32_58, zr32_59, zr32_60, zr32_61, zr32_62, zr32_65, zr32_68, zr32_70, zr32_72, zr32_75, zr32_76, zr32_77, zr32_78, zr32_79, zr32_80, zr32_82, zr32_84, zr32_86, zr32_89, zr32_90, zr32_91, zr32_92, zr32_93, zr32_96, zr32_97, zr32_100, zr32_104, zr32_105, zr32_108, zr32_111, zr32_112, zr32_115, zr32_118, zr32_119, zr32_122, zr32_124, hsp.1, zq_kill_int, zq_kill_ref, zq_kill_ret, zq_kill_null, zq_kill_long, zq_rf_some, zq_rf_none, true_and, and_true, true_implies, not_true_eq_false, not_false_eq_true, false_implies, Bool.true_eq_false, Bool.false_eq_true, nI_1, zb_i0, zb_i1, zb_i2, Option.toList_some, Option.toList_none, List.cons_append, List.nil_append, true_or, or_true, implies_true, zb_it, zb_if, zb_10, zb_00, zb_n5, zb_n2, zb_m1, zb_m3, zb_m9, or_true, true_or, or_false, false_or, q7, e1, q1]
      exact fin W i C v1 _ v5 v6 v7 (by omega) hi hw.1 e1 Q
/-- a court is read: a fault, or it stands in the court -/
theorem k_Reader_readCourt (hc : c = 36 ∨ c = 45) (hj : j < 4) (hn : n ≤ 60) (e1 : C (15 + 2 * j) 1 = nI n) (e2 : C (15 + 1 + 2 * j) = f) :
    ∃ C', (∀ y, y < c ∨ c + 8 < y → C' y = C y) ∧ ((∃ q, rdc f n = .inl q ∧ q < 2147483648 ∧ ∀ Q, zq_P (d + 5) 26 0 [.ref (15 + 2 * j), .ref c, .retAddr 0, .retAddr 0, .retAddr 0, .retAddr 0, .retAddr 0] [] (zq_SG N, C, hl, zq_HR ca cb cs) Q = Q (some (.int (nI q))) (zq_SG N, C', hl, zq_HR ca cb cs)) ∨
      ∃ r s w, rdc f n = .inr (r, s, w) ∧ r ≤ 6 ∧ s.1 ≤ 3 ∧ 0 < w.1 ∧ w.1 ≤ 7 ∧ pok s ∧ wok s.1 w ∧ C' c 8 = nI r ∧ CtP C' c s ∧ CtW C' c w ∧ ∀ Q, zq_P (d + 5) 26 0 [.ref (15 + 2 * j), .ref c, .retAddr 0, .retAddr 0, .retAddr 0, .retAddr 0, .retAddr 0] [] (zq_SG N, C, hl, zq_HR ca cb cs) Q = Q (some (.int (-9))) (zq_SG N, C', hl, zq_HR ca cb cs)) := by
  have hs := zq_Ss_texts (N := N) (ca := ca) (cb := cb) (cs := cs)
  have hsp := (hs.2 j hj).2
  have hct := zq_Ct_ok (N := N) (ca := ca) (cb := cb) (cs := cs) hc
  generalize hC1 : zq_u (zq_u (zq_u C c 8 0) c 9 0) c 10 0 = C1
  have cl : ∀ Q, zq_P (d + 4) 27 0 [.ref c] [] (zq_SG N, C, hl, zq_HR ca cb cs) Q = Q none (zq_SG N, C1, hl, zq_HR ca cb cs) := fun Q => by
    simp only [zr27_0, zr27_1, zr27_2, zr27_5, zr27_6, zr27_7, zr27_10, zr27_11, zr27_12, zr27_15, hct.1, zq_kill_int, zq_kill_ref, zq_kill_ret, zq_kill_null, zq_kill_long, zq_rf_some, zq_rf_none, true_and, and_true, true_implies, not_true_eq_false, not_false_eq_true, false_implies, Bool.true_eq_false, Bool.false_eq_true, nI_1, zb_i0, zb_i1, zb_i2, Option.toList_some, Option.toList_none, List.cons_append, List.nil_append, true_or, or_true, implies_true, hC1]
  have o1 : ∀ y, y ≠ c → C1 y = C y := fun y hy => by rw [← hC1, zq_u_ne hy, zq_u_ne hy, zq_u_ne hy]
  have t1 : C1 (15 + 2 * j) 1 = nI n := by rw [o1 _ (by omega)]; exact e1
  have t2 : C1 (15 + 1 + 2 * j) = f := by rw [o1 _ (by omega)]; exact e2
  have i0 := sk_le (f := f) (n := n) 60 0 (by omega)
  have bl0 : ∀ Q, zq_P (d + 4) 28 0 [.ref (15 + 2 * j), .int 0, .retAddr 0] [] (zq_SG N, C1, hl, zq_HR ca cb cs) Q = Q (some (.int (nI (skp f n 0)))) (zq_SG N, C1, hl, zq_HR ca cb cs) := fun Q => k_Reader_blanks (d := d + 2) (i := 0) hsp t1 hn t2 (by omega)
  have bt := fun Q => k_Strip_byteAt (d := d + 3) (hl := hl) (Q := Q) hsp t1 hn t2 (show skp f n 0 ≤ 1000 by show sk f n 60 0 ≤ 1000; omega)
  have b1 := bya_in (f := f) (n := n) (i := skp f n 0) (y := 107) (by decide)
  have f6 : ∀ Q, zq_P (d + 4) 30 0 [.ref (15 + 2 * j), .int (nI (skp f n 0 + 1)), .int 6, .retAddr 0] [] (zq_SG N, C1, hl, zq_HR ca cb cs) Q = Q (some (.int (ddi (fgv f n (skp f n 0 + 1) 6)))) (zq_SG N, C1, hl, zq_HR ca cb cs) := fun Q => k_Reader_figure (d := d + 2) (h := 6) hsp t1 hn t2 (by show sk f n 60 0 + 1 ≤ 1000; omega) (by omega)
  replace i0 : skp f n 0 ≤ n := i0
  unfold rdc
  generalize hp0 : skp f n 0 = p0 at *
  by_cases q : p0 < n ∧ f p0 = 107
  · rw [if_pos q]
    have b2 : (bya f n p0 = 107) = True := by rw [b1]; exact eq_true q
    cases h6 : fgv f n (p0 + 1) 6 with
    | none =>
      rw [h6] at f6
      refine ⟨C1, fun y hy => o1 y (by omega), Or.inl ⟨p0 + 1, rfl, by omega, fun Q => ?_⟩⟩
      simp only [zr26_0, zr26_1, zr26_4, zr26_5, zr26_6, zr26_9, zr26_10, zr26_11, zr26_12, zr26_15, zr26_17, zr26_20, zr26_21, zr26_22, zr26_23, zr26_24, zr26_25, zr26_26, zr26_28, zr26_31, zr26_32, zr26_33, zr26_36, zr26_37, zr26_38, zr26_39, zr26_40, zr26_41, zr26_42, zr26_45, zr26_46, zr26_47, zr26_48, zr26_49, zr26_52, zr26_53, zr26_54, zr26_58, zr26_59, zr26_62, zr26_63, zr26_64, zr26_67, zr26_69, zr26_72, zr26_73, zr26_74, zr26_75, zr26_76, zr26_78, zr26_81, zr26_83, zr26_85, zr26_86, zr26_89, zr26_90, zr26_91, zr26_92, zr26_93, zr26_94, zr26_95, zr26_96, zr26_97, zr26_99, zr26_100, zr26_101, zr26_104, zr26_106, zr26_108, zr26_111, zr26_112, zr26_113, zr26_114, zr26_115, zr26_116, zr26_118, zr26_120, zr26_123, zr26_124, zr26_125, zr26_126, zr26_127, zr26_130, zr26_131, zr26_134, zr26_138, zr26_139, zr26_140, zr26_143, hsp.1, hct.1, zq_kill_int, zq_kill_ref, zq_kill_ret, zq_kill_null, zq_kill_long, zq_rf_some, zq_rf_none, true_and, and_true, true_implies, not_true_eq_false, not_false_eq_true, false_implies, Bool.true_eq_false, Bool.false_eq_true, nI_1, zb_i0, zb_i1, zb_i2, Option.toList_some, Option.toList_none, List.cons_append, List.nil_append, true_or, or_true, implies_true, zb_it, zb_if, zb_10, zb_00, zb_n5, zb_n2, zb_m1, zb_m3, zb_m9, or_true, true_or, or_false, false_or, cl, bl0, bt, b2, f6, ddi_n]
    | some r =>
      rw [h6] at f6
      obtain ⟨r1, r2, -⟩ := fgv_some (by omega) h6
      have r0 : (nI r < 0) = False := eq_false (nI_pos (by omega))
      dsimp only
      generalize hC2 : zq_u C1 c 8 (nI r) = C2
      have o2 : ∀ y, y ≠ c → C2 y = C1 y := fun y hy => by rw [← hC2, zq_u_ne hy]
      have u1 : C2 (15 + 2 * j) 1 = nI n := by rw [o2 _ (by omega)]; exact t1
      have u2 : C2 (15 + 1 + 2 * j) = f := by rw [o2 _ (by omega)]; exact t2
      have bl1 := fun Q => k_Reader_blanks (d := d + 2) (hl := hl) (Q := Q) (i := p0 + 2) hsp u1 hn u2 (by omega)
      have c9 : C2 c 9 = nI 0 := by rw [← hC2, zq_u_kn (by omega), ← hC1, zq_u_kn (by omega), zq_u_eq]; rfl
      have c10 : C2 c 10 = nI 0 := by rw [← hC2, zq_u_kn (by omega), ← hC1, zq_u_eq]; rfl
      have c8 : C2 c 8 = nI r := by rw [← hC2, zq_u_eq]
      have none0 : ∀ k, ¬ k < 0 := fun k => Nat.not_lt_zero k
      obtain ⟨C3, m1, m2, m3, m4⟩ := k_Reader_people (N := N) (ca := ca) (cb := cb) (cs := cs) (d := d + 1) (hl := hl) hc hj hn 3 0 (by omega) (skp f n (p0 + 2)) (fun _ => 0) (fun _ => 0) C2 (.retAddr 0) (.retAddr 0) (nI r) (sk_le _ _ (by omega)) ⟨c9, fun k hk => absurd hk (none0 k)⟩ (fun k hk => absurd hk (none0 k)) u1 u2
      have w1 : C3 (15 + 2 * j) 1 = nI n := by rw [m1 _ (by omega)]; exact u1
      have w2 : C3 (15 + 1 + 2 * j) = f := by rw [m1 _ (by omega)]; exact u2
      have start : ∀ Q, zq_P (d + 5) 26 0 [.ref (15 + 2 * j), .ref c, .retAddr 0, .retAddr 0, .retAddr 0, .retAddr 0, .retAddr 0] [] (zq_SG N, C, hl, zq_HR ca cb cs) Q = zq_P (d + 5) 26 56 [.ref (15 + 2 * j), .ref c, .int (nI (skp f n (p0 + 2))), .int (nI r), .int (nI 0), .retAddr 0, .retAddr 0] [] (zq_SG N, C2, hl, zq_HR ca cb cs) Q := fun Q => by
        simp only [zr26_0, zr26_1, zr26_4, zr26_5, zr26_6, zr26_9, zr26_10, zr26_11, zr26_12, zr26_15, zr26_17, zr26_20, zr26_21, zr26_22, zr26_23, zr26_24, zr26_25, zr26_26, zr26_28, zr26_31, zr26_32, zr26_33, zr26_36, zr26_37, zr26_38, zr26_39, zr26_40, zr26_41, zr26_42, zr26_45, zr26_46, zr26_47, zr26_48, zr26_49, zr26_52, zr26_53, zr26_54, zr26_58, zr26_59, zr26_62, zr26_63, zr26_64, zr26_67, zr26_69, zr26_72, zr26_73, zr26_74, zr26_75, zr26_76, zr26_78, zr26_81, zr26_83, zr26_85, zr26_86, zr26_89, zr26_90, zr26_91, zr26_92, zr26_93, zr26_94, zr26_95, zr26_96, zr26_97, zr26_99, zr26_100, zr26_101, zr26_104, zr26_106, zr26_108, zr26_111, zr26_112, zr26_113, zr26_114, zr26_115, zr26_116, zr26_118, zr26_120, zr26_123, zr26_124, zr26_125, zr26_126, zr26_127, zr26_130, zr26_131, zr26_134, zr26_138, zr26_139, zr26_140, zr26_143, hsp.1, hct.1, zq_kill_int, zq_kill_ref, zq_kill_ret, zq_kill_null, zq_kill_long, zq_rf_some, zq_rf_none, true_and, and_true, true_implies, not_true_eq_false, not_false_eq_true, false_implies, Bool.true_eq_false, Bool.false_eq_true, nI_1, zb_i0, zb_i1, zb_i2, Option.toList_some, Option.toList_none, List.cons_append, List.nil_append, true_or, or_true, implies_true, zb_it, zb_if, zb_10, zb_00, zb_n5, zb_n2, zb_m1, zb_m3, zb_m9, or_true, true_or, or_false, false_or, cl, bl0, bt, b2, f6, ddi_w, r0, hC2, zb_p2, bl1]
        rfl
      have fr3 : ∀ y, y < c ∨ c + 8 < y → C3 y = C y := fun y hy => by rw [m1 y hy, o2 y (by omega), o1 y (by omega)]
      rcases m4 with ⟨q4, k1, k2⟩ | ⟨i', s, v4, v5', v6', k1, k2, k3, k4, k5, k6⟩
      · rw [k1]
        dsimp only
        have hq4 : q4 < 2147483648 := ppl_lt hn 3 _ _ (sk_le (f := f) (n := n) 60 (p0 + 2) (by omega)) k1
        exact ⟨C3, fr3, Or.inl ⟨q4, rfl, hq4, fun Q => (start Q).trans (k2 Q)⟩⟩
      · rw [k1]
        dsimp only
        obtain ⟨C4, n1, ⟨n2, n3, n4, n5⟩, n6⟩ := k_Reader_ways (N := N) (ca := ca) (cb := cb) (cs := cs) (d := d) (hl := hl) hc hj hn k3 7 0 (by omega) i' (fun _ => 0) (fun _ => 0) (fun _ => 0) C3 (.int (nI i')) (.retAddr 0) (.retAddr 0) (.retAddr 0) k2 ⟨by rw [m3]; exact c10, fun k hk => absurd hk (none0 k)⟩ (fun k hk => absurd hk (none0 k)) k5.1 w1 w2
        have fr4 : ∀ y, y < c ∨ c + 8 < y → C4 y = C y := fun y hy => by rw [n1 y hy, fr3 y hy]
        have rw5 : ∀ Q, zq_P (d + 5) 26 137 [.ref (15 + 2 * j), .ref c, .int (nI i'), .int (nI r), v4, v5', v6'] [] (zq_SG N, C3, hl, zq_HR ca cb cs) Q = zq_P (d + 4) 32 5 [.ref (15 + 2 * j), .int (nI i'), .ref c, .int (nI i'), .int (nI 0), .retAddr 0, .retAddr 0, .retAddr 0] [] (zq_SG N, C3, hl, zq_HR ca cb cs) (fun v g2 => zq_P (d + 5) 26 143 [.ref (15 + 2 * j), .ref c, .int (nI i'), .int (nI r), v4, v5', v6'] (v.toList ++ []) g2 Q) := fun Q => by
          simp only [zr26_0, zr26_1, zr26_4, zr26_5, zr26_6, zr26_9, zr26_10, zr26_11, zr26_12, zr26_15, zr26_17, zr26_20, zr26_21, zr26_22, zr26_23, zr26_24, zr26_25, zr26_26, zr26_28, zr26_31, zr26_32, zr26_33, zr26_36, zr26_37, zr26_38, zr26_39, zr26_40, zr26_41, zr26_42, zr26_45, zr26_46, zr26_47, zr26_48, zr26_49, zr26_52, zr26_53, zr26_54, zr26_58, zr26_59, zr26_62, zr26_63, zr26_64, zr26_67, zr26_69, zr26_72, zr26_73, zr26_74, zr26_75, zr26_76, zr26_78, zr26_81, zr26_83, zr26_85, zr26_86, zr26_89, zr26_90, zr26_91, zr26_92, zr26_93, zr26_94, zr26_95, zr26_96, zr26_97, zr26_99, zr26_100, zr26_101, zr26_104, zr26_106, zr26_108, zr26_111, zr26_112, zr26_113, zr26_114, zr26_115, zr26_116, zr26_118, zr26_120, zr26_123, zr26_124, zr26_125, zr26_126, zr26_127, zr26_130, zr26_131, zr26_134, zr26_137, zr26_138, zr26_139, zr26_140, zr32_0, zr32_1, zr32_2, zr32_3, zr32_7, zr32_9, zr32_12, zr32_13, zr32_14, zr32_17, zr32_20, zr32_21, zr32_22, zr32_25, zr32_28, zr32_30, zr32_32, zr32_35, zr32_36, zr32_37, zr32_38, zr32_39, zr32_40, zr32_41, zr32_43, zr32_46, zr32_48, zr32_50, zr32_53, zr32_54, zr32_55, zr32_56, zr32_57, zr32_58, zr32_59, zr32_60, zr32_61, zr32_62, zr32_65, zr32_68, zr32_70, zr32_72, zr32_75, zr32_76, zr32_77, zr32_78, zr32_79, zr32_80, zr32_82, zr32_84, zr32_86, zr32_89, zr32_90, zr32_91, zr32_92, zr32_93, zr32_96, zr32_97, zr32_100, zr32_104, zr32_105, zr32_108, zr32_111, zr32_112, zr32_115, zr32_118, zr32_119, zr32_122, zr32_124, zq_kill_int, zq_kill_ref, zq_kill_ret, zq_kill_null, zq_kill_long, zq_rf_some, zq_rf_none, true_and, and_true, true_implies, not_true_eq_false, not_false_eq_true, false_implies, Bool.true_eq_false, Bool.false_eq_true, nI_1, zb_i0, zb_i1, zb_i2, Option.toList_some, Option.toList_none, List.cons_append, List.nil_append, true_or, or_true, implies_true, zb_it, zb_if, zb_10, zb_00, zb_n5, zb_n2, zb_m1, zb_m3, zb_m9, or_true, true_or, or_false, false_or]
          rfl
        have last : ∀ (y : Int32) (Cx : zq_I) Q, zq_P (d + 5) 26 143 [.ref (15 + 2 * j), .ref c, .int (nI i'), .int (nI r), v4, v5', v6'] [.int y] (zq_SG N, Cx, hl, zq_HR ca cb cs) Q = Q (some (.int y)) (zq_SG N, Cx, hl, zq_HR ca cb cs) := fun y Cx Q => by
          rw [zr26_143]
        rcases n6 with ⟨q5, a1, a2⟩ | ⟨i5, s5, a1, a2, a3, a4, a5, a6⟩
        · rw [a1]
          dsimp only
          have hq5 : q5 < 2147483648 := wys_lt hn k3 7 _ _ k2 a1
          refine ⟨C4, fr4, Or.inl ⟨q5, rfl, hq5, fun Q => ?_⟩⟩
          rw [start Q, k6 Q, rw5 Q, a2]
          exact last _ _ _
        · rw [a1]
          dsimp only
          by_cases q6 : i5 < n ∨ s5.1 = 0
          · rw [if_pos q6]
            refine ⟨C4, fr4, Or.inl ⟨i5, rfl, by omega, fun Q => ?_⟩⟩
            rw [start Q, k6 Q, rw5 Q, a6, if_pos q6]
            exact last _ _ _
          · rw [if_neg q6]
            refine ⟨C4, fr4, Or.inr ⟨r, s, s5, rfl, r2, k3, by omega, a3, k4, a4, ?_, ?_, a5, fun Q => ?_⟩⟩
            · rw [n2, m2]; exact c8
            · refine ⟨by rw [n3]; exact k5.1, fun k hk => ?_⟩
              rw [n4, n5]
              exact k5.2 k hk
            · rw [start Q, k6 Q, rw5 Q, a6, if_neg q6]
              exact last _ _ _
  · rw [if_neg q]
    have b2 : (bya f n p0 = 107) = False := by rw [b1]; exact eq_false q
    refine ⟨C1, fun y hy => o1 y (by omega), Or.inl ⟨p0, rfl, by omega, fun Q => ?_⟩⟩
    simp only [zr26_0, zr26_1, zr26_4, zr26_5, zr26_6, zr26_9, zr26_10, zr26_11, zr26_12, zr26_15, zr26_17, zr26_20, zr26_21, zr26_22, zr26_23, zr26_24, zr26_25, zr26_26, zr26_28, zr26_31, zr26_32, zr26_33, zr26_36, zr26_37, zr26_38, zr26_39, zr26_40, zr26_41, zr26_42, zr26_45, zr26_46, zr26_47, zr26_48, zr26_49, zr26_52, zr26_53, zr26_54, zr26_58, zr26_59, zr26_62, zr26_63, zr26_64, zr26_67, zr26_69, zr26_72, zr26_73, zr26_74, zr26_75, zr26_76, zr26_78, zr26_81, zr26_83, zr26_85, zr26_86, zr26_89, zr26_90, zr26_91, zr26_92, zr26_93, zr26_94, zr26_95, zr26_96, zr26_97, zr26_99, zr26_100, zr26_101, zr26_104, zr26_106, zr26_108, zr26_111, zr26_112, zr26_113, zr26_114, zr26_115, zr26_116, zr26_118, zr26_120, zr26_123, zr26_124, zr26_125, zr26_126, zr26_127, zr26_130, zr26_131, zr26_134, zr26_138, zr26_139, zr26_140, zr26_143, hsp.1, hct.1, zq_kill_int, zq_kill_ref, zq_kill_ret, zq_kill_null, zq_kill_long, zq_rf_some, zq_rf_none, true_and, and_true, true_implies, not_true_eq_false, not_false_eq_true, false_implies, Bool.true_eq_false, Bool.false_eq_true, nI_1, zb_i0, zb_i1, zb_i2, Option.toList_some, Option.toList_none, List.cons_append, List.nil_append, true_or, or_true, implies_true, zb_it, zb_if, zb_10, zb_00, zb_n5, zb_n2, zb_m1, zb_m3, zb_m9, or_true, true_or, or_false, false_or, cl, bl0, bt, b2]
end Z62
