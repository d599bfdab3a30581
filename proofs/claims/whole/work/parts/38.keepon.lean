/-! keep, on -/
theorem zb_m698 (r : Nat) : (698 : Int32) * nI r = nI (698 * r) := pk_mul 698 r
theorem zb_m17 (r : Nat) : (17 : Int32) * nI r = nI (17 * r) := pk_mul 17 r
theorem zb_p680 (r : Nat) : nI r + 680 = nI (r + 680) := nI_add r 680
theorem zb_p697 (r : Nat) : nI r + 697 = nI (r + 697) := nI_add r 697
theorem zb_l3 {j : Nat} (h : j < 3) : (nI j < 3) = True := eq_true ((nI_ltI (b := 3) (by omega) (by omega)).mpr h)
section Z38
variable {N ca cb cs d k n : Nat} {hi : zq_I} {hl : zq_J} {Q : Option Value → zq_G → Prop}
def mkp (hi : zq_I) (k D : Nat) : zq_I := zq_u (zq_u (zm_wr (zq_w hi 78 (va_cpy (hi 76) (hi 78) 0 (698 * k) (17 * D))) 78 (698 * k + 680)) 78 (698 * k + 697) (nI D)) 77 k 1
theorem k_M_keep {D W : Nat} (hk : k < 3) (hD : D ≤ 40) (h30 : hi 60 30 = nI D) (h10 : hi 60 10 = nI W) (hW : 0 < W) (hW7 : W ≤ 7) : zq_P (d + 2) 158 0 [.ref 60, .int (nI k), .retAddr 0, .retAddr 0] [] (zq_SG N, hi, hl, zq_HR ca cb cs) Q = Q (some (.int (nI D))) (zq_SG N, mkp hi k D, hl, zq_HR ca cb cs) := by
  have loop : zq_P (d + 2) 158 29 [.ref 60, .int (nI k), .int (nI (698 * k)), .int (nI 0)] [] (zq_SG N, zq_w hi 78 (va_cpy (hi 76) (hi 78) 0 (698 * k) 0), hl, zq_HR ca cb cs) Q = zq_P (d + 2) 158 29 [.ref 60, .int (nI k), .int (nI (698 * k)), .int (nI (17 * D))] [] (zq_SG N, zq_w hi 78 (va_cpy (hi 76) (hi 78) 0 (698 * k) (17 * D)), hl, zq_HR ca cb cs) Q := by
    refine zq_loop (f := fun i => zq_P (d + 2) 158 29 [.ref 60, .int (nI k), .int (nI (698 * k)), .int (nI i)] [] (zq_SG N, zq_w hi 78 (va_cpy (hi 76) (hi 78) 0 (698 * k) i), hl, zq_HR ca cb cs) Q) fun i hi' => ?_
    have x1 : zq_xS (nI i) 680 := zb_x (by omega) (by omega)
    have x2 : (nI i).toNatClampNeg = i := zb_cl (by omega)
    have x3 : zq_xS (nI (698 * k + i)) 2094 := zb_x (by omega) (by omega)
    have x4 : (nI (698 * k + i)).toNatClampNeg = 698 * k + i := zb_cl (by omega)
    have h3 : (nI i < nI (17 * D)) = True := eq_true ((nI_ltI (by omega) (by omega)).mpr hi')
    have e1 : ∀ f, zq_w hi 78 f 60 30 = nI D := fun f => by rw [zq_w_ne (by omega)]; exact h30
    have e2 : ∀ f, zq_w hi 78 f 76 = hi 76 := fun f => zq_w_ne (by omega)
    have e := cpy_s (f := hi 76) (g := hi 78) (sp := 0) (dp := 698 * k) (k := i)
    rw [Nat.zero_add] at e
    rw [zr158_29]
    simp only [zr158_0, zr158_1, zr158_2, zr158_3, zr158_6, zr158_9, zr158_10, zr158_11, zr158_12, zr158_15, zr158_18, zr158_20, zr158_21, zr158_24, zr158_25, zr158_26, zr158_27, zr158_28, zr158_30, zr158_32, zr158_33, zr158_36, zr158_37, zr158_40, zr158_41, zr158_44, zr158_45, zr158_46, zr158_47, zr158_48, zr158_51, zr158_52, zr158_53, zr158_54, zr158_57, zr158_60, zr158_61, zr158_62, zr158_65, zr158_66, zr158_69, zr158_70, zr158_73, zr158_74, zr158_77, zr158_78, zr158_81, zr158_82, zr158_83, zr158_86, zr158_87, zr158_88, zr158_91, zr158_92, zr158_93, zr158_94, zr158_95, zr158_98, zs_m0 N, zs_m1 N, zs_m2 N, zh_m0 ca cb cs, zq_kill_int, zq_kill_ref, zq_kill_ret, zq_kill_null, zq_kill_long, zq_rf_some, zq_rf_none, true_and, and_true, true_implies, not_true_eq_false, not_false_eq_true, false_implies, Bool.true_eq_false, Bool.false_eq_true, nI_1, zb_i0, zb_i1, zb_i2, Option.toList_some, Option.toList_none, List.cons_append, List.nil_append, true_or, or_true, implies_true, zb_it, zb_if, zb_10, zb_00, zb_n5, zb_n2, zb_m1, zb_m3, zb_m9, or_true, true_or, or_false, false_or, e1, e2, zb_m17, h3, x1, x2, x3, x4, nI_add, zq_w_u, e]
  rw [cpy_0, zq_w_self] at loop
  have hin := zm_in_ok (M1 := 2) hk (by decide) (by omega)
  have h3 : (nI (17 * D) < nI (17 * D)) = False := eq_false (nI_nlt (Nat.le_refl _) (by omega))
  have e0 : (nI W = 0) = False := eq_false (nI_ne0 (by omega) (by omega))
  have g1 : zq_aW (zq_SG N) 78 := by simp only [zs_m0 N, zs_m1 N, zs_m2 N]
  have g2 : zq_ln (zq_SG N) 78 = 2094 := by simp only [zs_m0 N, zs_m1 N, zs_m2 N]
  have e1 : ∀ f, zq_w hi 78 f 60 30 = nI D := fun f => by rw [zq_w_ne (by omega)]; exact h30
  have e2 : ∀ f, zm_wr (zq_w hi 78 f) 78 (698 * k + 680) 60 30 = nI D := fun f => by unfold zm_wr; rw [zq_w_ne (by omega)]; exact e1 f
  have e3 : ∀ f v, zq_u (zq_u (zm_wr (zq_w hi 78 f) 78 (698 * k + 680)) 78 (698 * k + 697) v) 77 k 1 60 30 = nI D := fun f v => by rw [zq_u_ne (by omega), zq_u_ne (by omega)]; exact e2 f
  have x1 : zq_xS (nI k) 3 := zb_x (by omega) (by omega)
  have x2 : (nI k).toNatClampNeg = k := zb_cl (by omega)
  have x3 : zq_xS (nI (698 * k + 697)) 2094 := zb_x (by omega) (by omega)
  have x4 : (nI (698 * k + 697)).toNatClampNeg = 698 * k + 697 := zb_cl (by omega)
  simp only [zr158_0, zr158_1, zr158_2, zr158_3, zr158_6, zr158_9, zr158_10, zr158_11, zr158_12, zr158_15, zr158_18, zr158_20, zr158_21, zr158_24, zr158_25, zr158_26, zr158_27, zr158_28, zr158_30, zr158_32, zr158_33, zr158_36, zr158_37, zr158_40, zr158_41, zr158_44, zr158_45, zr158_46, zr158_47, zr158_48, zr158_51, zr158_52, zr158_53, zr158_54, zr158_57, zr158_60, zr158_61, zr158_62, zr158_65, zr158_66, zr158_69, zr158_70, zr158_73, zr158_74, zr158_77, zr158_78, zr158_81, zr158_82, zr158_83, zr158_86, zr158_87, zr158_88, zr158_91, zr158_92, zr158_93, zr158_94, zr158_95, zr158_98, zs_m0 N, zs_m1 N, zs_m2 N, zh_m0 ca cb cs, zq_kill_int, zq_kill_ref, zq_kill_ret, zq_kill_null, zq_kill_long, zq_rf_some, zq_rf_none, true_and, and_true, true_implies, not_true_eq_false, not_false_eq_true, false_implies, Bool.true_eq_false, Bool.false_eq_true, nI_1, zb_i0, zb_i1, zb_i2, Option.toList_some, Option.toList_none, List.cons_append, List.nil_append, true_or, or_true, implies_true, zb_it, zb_if, zb_10, zb_00, zb_n5, zb_n2, zb_m1, zb_m3, zb_m9, or_true, true_or, or_false, false_or, k_M_in, hin, h10, e0, zb_m698]
  refine Eq.trans loop ?_
  rw [zr158_29]
  simp only [zr158_0, zr158_1, zr158_2, zr158_3, zr158_6, zr158_9, zr158_10, zr158_11, zr158_12, zr158_15, zr158_18, zr158_20, zr158_21, zr158_24, zr158_25, zr158_26, zr158_27, zr158_28, zr158_30, zr158_32, zr158_33, zr158_36, zr158_37, zr158_40, zr158_41, zr158_44, zr158_45, zr158_46, zr158_47, zr158_48, zr158_51, zr158_52, zr158_53, zr158_54, zr158_57, zr158_60, zr158_61, zr158_62, zr158_65, zr158_66, zr158_69, zr158_70, zr158_73, zr158_74, zr158_77, zr158_78, zr158_81, zr158_82, zr158_83, zr158_86, zr158_87, zr158_88, zr158_91, zr158_92, zr158_93, zr158_94, zr158_95, zr158_98, zs_m0 N, zs_m1 N, zs_m2 N, zh_m0 ca cb cs, zq_kill_int, zq_kill_ref, zq_kill_ret, zq_kill_null, zq_kill_long, zq_rf_some, zq_rf_none, true_and, and_true, true_implies, not_true_eq_false, not_false_eq_true, false_implies, Bool.true_eq_false, Bool.false_eq_true, nI_1, zb_i0, zb_i1, zb_i2, Option.toList_some, Option.toList_none, List.cons_append, List.nil_append, true_or, or_true, implies_true, zb_it, zb_if, zb_10, zb_00, zb_n5, zb_n2, zb_m1, zb_m3, zb_m9, or_true, true_or, or_false, false_or, e1, zb_m17, h3, zb_p680, k_M_write g1 g2 (show 2094 ≤ 3000 by omega) (show 698 * k + 680 + 17 ≤ 2094 by omega) (by omega) (by omega) (by omega), e2, zb_p697, x1, x2, x3, x4, e3, mkp]
def mon (hi : zq_I) (k n : Nat) : zq_I := zq_w (zq_u (zm_rd hi 78 (698 * k + 680)) 60 30 (nI n)) 76 (va_cpy (hi 78) (hi 76) (698 * k) 0 (17 * n))
theorem k_M_on {n : Nat} (hk : k < 3) (hn : n ≤ 40) (h77 : hi 77 k = 1) (h78 : hi 78 (698 * k + 697) = nI n) : zq_P (d + 2) 159 0 [.ref 60, .int (nI k), .retAddr 0, .retAddr 0] [] (zq_SG N, hi, hl, zq_HR ca cb cs) Q = Q (some (.int (nI n))) (zq_SG N, mon hi k n, hl, zq_HR ca cb cs) := by
  generalize hg : zq_u (zm_rd hi 78 (698 * k + 680)) 60 30 (nI n) = g
  have g78 : g 78 = hi 78 := by rw [← hg]; unfold zm_rd zm_rk; rw [zq_u_ne (by omega), zq_w_ne (by omega), zq_w_ne (by omega), zq_u_ne (by omega), zq_u_ne (by omega), zq_u_ne (by omega)]
  have g76 : g 76 = hi 76 := by rw [← hg]; unfold zm_rd zm_rk; rw [zq_u_ne (by omega), zq_w_ne (by omega), zq_w_ne (by omega), zq_u_ne (by omega), zq_u_ne (by omega), zq_u_ne (by omega)]
  have g30 : g 60 30 = nI n := by rw [← hg]; exact zq_u_eq
  have r78 : zm_rd hi 78 (698 * k + 680) 78 = hi 78 := by unfold zm_rd zm_rk; rw [zq_w_ne (by omega), zq_w_ne (by omega), zq_u_ne (by omega), zq_u_ne (by omega), zq_u_ne (by omega)]
  have loop : zq_P (d + 2) 159 61 [.ref 60, .int (nI k), .int (nI (698 * k)), .int (nI 0)] [] (zq_SG N, zq_w g 76 (va_cpy (hi 78) (hi 76) (698 * k) 0 0), hl, zq_HR ca cb cs) Q = zq_P (d + 2) 159 61 [.ref 60, .int (nI k), .int (nI (698 * k)), .int (nI (17 * n))] [] (zq_SG N, zq_w g 76 (va_cpy (hi 78) (hi 76) (698 * k) 0 (17 * n)), hl, zq_HR ca cb cs) Q := by
    refine zq_loop (f := fun i => zq_P (d + 2) 159 61 [.ref 60, .int (nI k), .int (nI (698 * k)), .int (nI i)] [] (zq_SG N, zq_w g 76 (va_cpy (hi 78) (hi 76) (698 * k) 0 i), hl, zq_HR ca cb cs) Q) fun i hi' => ?_
    have x1 : zq_xS (nI i) 680 := zb_x (by omega) (by omega)
    have x2 : (nI i).toNatClampNeg = i := zb_cl (by omega)
    have x3 : zq_xS (nI (698 * k + i)) 2094 := zb_x (by omega) (by omega)
    have x4 : (nI (698 * k + i)).toNatClampNeg = 698 * k + i := zb_cl (by omega)
    have h3 : (nI i < nI (17 * n)) = True := eq_true ((nI_ltI (by omega) (by omega)).mpr hi')
    have e1 : ∀ f, zq_w g 76 f 60 30 = nI n := fun f => by rw [zq_w_ne (by omega)]; exact g30
    have e2 : ∀ f, zq_w g 76 f 78 = hi 78 := fun f => by rw [zq_w_ne (by omega)]; exact g78
    have e := cpy_s (f := hi 78) (g := hi 76) (sp := 698 * k) (dp := 0) (k := i)
    rw [Nat.zero_add] at e
    rw [zr159_61]
    simp only [zr159_0, zr159_1, zr159_2, zr159_3, zr159_6, zr159_9, zr159_10, zr159_11, zr159_12, zr159_15, zr159_16, zr159_17, zr159_20, zr159_21, zr159_22, zr159_25, zr159_26, zr159_29, zr159_30, zr159_31, zr159_32, zr159_33, zr159_34, zr159_37, zr159_38, zr159_41, zr159_42, zr159_45, zr159_46, zr159_47, zr159_50, zr159_51, zr159_54, zr159_55, zr159_56, zr159_59, zr159_60, zr159_62, zr159_64, zr159_65, zr159_68, zr159_69, zr159_72, zr159_73, zr159_76, zr159_77, zr159_78, zr159_81, zr159_82, zr159_83, zr159_84, zr159_85, zr159_86, zr159_89, zr159_92, zr159_93, zr159_96, zs_m0 N, zs_m1 N, zs_m2 N, zh_m0 ca cb cs, zq_kill_int, zq_kill_ref, zq_kill_ret, zq_kill_null, zq_kill_long, zq_rf_some, zq_rf_none, true_and, and_true, true_implies, not_true_eq_false, not_false_eq_true, false_implies, Bool.true_eq_false, Bool.false_eq_true, nI_1, zb_i0, zb_i1, zb_i2, Option.toList_some, Option.toList_none, List.cons_append, List.nil_append, true_or, or_true, implies_true, zb_it, zb_if, zb_10, zb_00, zb_n5, zb_n2, zb_m1, zb_m3, zb_m9, or_true, true_or, or_false, false_or, e1, e2, zb_m17, h3, x1, x2, x3, x4, nI_add, zq_w_u, e]
  rw [cpy_0, ← g76, zq_w_self, g76] at loop
  have hin := zm_in_ok (M1 := 2) hk (by decide) (by omega)
  have h3 : (nI (17 * n) < nI (17 * n)) = False := eq_false (nI_nlt (Nat.le_refl _) (by omega))
  have q1 : zq_aS (zq_SG N) 78 := by simp only [zs_m0 N, zs_m1 N, zs_m2 N]
  have q2 : zq_ln (zq_SG N) 78 = 2094 := by simp only [zs_m0 N, zs_m1 N, zs_m2 N]
  have x1 : zq_xS (nI k) 3 := zb_x (by omega) (by omega)
  have x2 : (nI k).toNatClampNeg = k := zb_cl (by omega)
  have x3 : zq_xS (nI (698 * k + 697)) 2094 := zb_x (by omega) (by omega)
  have x4 : (nI (698 * k + 697)).toNatClampNeg = 698 * k + 697 := zb_cl (by omega)
  have e1 : ∀ f, zq_w g 76 f 60 30 = nI n := fun f => by rw [zq_w_ne (by omega)]; exact g30
  simp only [zr159_0, zr159_1, zr159_2, zr159_3, zr159_6, zr159_9, zr159_10, zr159_11, zr159_12, zr159_15, zr159_16, zr159_17, zr159_20, zr159_21, zr159_22, zr159_25, zr159_26, zr159_29, zr159_30, zr159_31, zr159_32, zr159_33, zr159_34, zr159_37, zr159_38, zr159_41, zr159_42, zr159_45, zr159_46, zr159_47, zr159_50, zr159_51, zr159_54, zr159_55, zr159_56, zr159_59, zr159_60, zr159_62, zr159_64, zr159_65, zr159_68, zr159_69, zr159_72, zr159_73, zr159_76, zr159_77, zr159_78, zr159_81, zr159_82, zr159_83, zr159_84, zr159_85, zr159_86, zr159_89, zr159_92, zr159_93, zr159_96, zs_m0 N, zs_m1 N, zs_m2 N, zh_m0 ca cb cs, zq_kill_int, zq_kill_ref, zq_kill_ret, zq_kill_null, zq_kill_long, zq_rf_some, zq_rf_none, true_and, and_true, true_implies, not_true_eq_false, not_false_eq_true, false_implies, Bool.true_eq_false, Bool.false_eq_true, nI_1, zb_i0, zb_i1, zb_i2, Option.toList_some, Option.toList_none, List.cons_append, List.nil_append, true_or, or_true, implies_true, zb_it, zb_if, zb_10, zb_00, zb_n5, zb_n2, zb_m1, zb_m3, zb_m9, or_true, true_or, or_false, false_or, k_M_in, hin, x1, x2, h77, zb_m698, zb_p680, k_M_read q1 q2 (show 2094 ≤ 3000 by omega) (show 698 * k + 680 + 17 ≤ 2094 by omega) (by omega) (by omega) (by omega), zb_p697, x3, x4, r78, h78, hg]
  refine Eq.trans loop ?_
  rw [zr159_61]
  simp only [zr159_0, zr159_1, zr159_2, zr159_3, zr159_6, zr159_9, zr159_10, zr159_11, zr159_12, zr159_15, zr159_16, zr159_17, zr159_20, zr159_21, zr159_22, zr159_25, zr159_26, zr159_29, zr159_30, zr159_31, zr159_32, zr159_33, zr159_34, zr159_37, zr159_38, zr159_41, zr159_42, zr159_45, zr159_46, zr159_47, zr159_50, zr159_51, zr159_54, zr159_55, zr159_56, zr159_59, zr159_60, zr159_62, zr159_64, zr159_65, zr159_68, zr159_69, zr159_72, zr159_73, zr159_76, zr159_77, zr159_78, zr159_81, zr159_82, zr159_83, zr159_84, zr159_85, zr159_86, zr159_89, zr159_92, zr159_93, zr159_96, zs_m0 N, zs_m1 N, zs_m2 N, zh_m0 ca cb cs, zq_kill_int, zq_kill_ref, zq_kill_ret, zq_kill_null, zq_kill_long, zq_rf_some, zq_rf_none, true_and, and_true, true_implies, not_true_eq_false, not_false_eq_true, false_implies, Bool.true_eq_false, Bool.false_eq_true, nI_1, zb_i0, zb_i1, zb_i2, Option.toList_some, Option.toList_none, List.cons_append, List.nil_append, true_or, or_true, implies_true, zb_it, zb_if, zb_10, zb_00, zb_n5, zb_n2, zb_m1, zb_m3, zb_m9, or_true, true_or, or_false, false_or, e1, zb_m17, h3, mon, hg]
end Z38
section Z38b
variable {N : Nat} {x z : Int32}
theorem p_keep : zq_pair N 59 158 [.ref 0, .int x] [.ref 60, .int x, .retAddr 0, .retAddr 0] := by
  intro hi hl ca cb cs W P D h
  have hca := h.court
  have hs := zq_Ss_kept (N := N) (ca := ca) (cb := cb) (cs := cs)
  have hc := zq_Ct_ok (N := N) (ca := ca) (cb := cb) (cs := cs) h.court
  have hct := h.2.2.2.2.2.1
  obtain ⟨⟨w1, w2, w3, w4, w5, w6, -⟩, -, wa⟩ := id hct
  obtain ⟨⟨d0, d1, d2, d3, d4, d5⟩, hdd, ⟨c1, c2, c3, c4⟩, ⟨m1, m2, m3⟩, nn, kk⟩ := id h.2.2.2.2.2.2
  have e3I : (nI 3 : Int32) = 3 := rfl
  rcases zb_ix x 3 (by omega) with hx | ⟨k, hk, rfl⟩
  · refine ⟨.int (-1), hi, hl, ca, cb, cs, hi, hl, W, P, D, fun Q => ?_, fun Q => ?_, h⟩
    · rw [e3I] at hx
      simp only [zr59_0, zr59_1, zr59_4, zr59_5, zr59_6, zr59_9, zr59_10, zr59_11, zr59_12, zr59_15, zr59_18, zr59_21, zr59_23, zr59_24, zr59_25, zr59_28, zr59_29, zr59_30, zr59_31, zr59_34, zr59_37, zr59_38, zr59_41, zr59_44, zr59_47, zr59_48, zr59_51, zr59_54, zs_x0 N, zh_x0 ca cb cs, zq_kill_int, zq_kill_ref, zq_kill_ret, zq_kill_null, zq_kill_long, zq_rf_some, zq_rf_none, true_and, and_true, true_implies, not_true_eq_false, not_false_eq_true, false_implies, Bool.true_eq_false, Bool.false_eq_true, nI_1, zb_i0, zb_i1, zb_i2, Option.toList_some, Option.toList_none, List.cons_append, List.nil_append, true_or, or_true, implies_true, zb_it, zb_if, zb_10, zb_00, zb_n5, zb_n2, zb_m1, zb_m3, zb_m9, or_true, true_or, or_false, false_or]
      by_cases q1 : x < 0
      · simp [q1]
      · by_cases q2 : x < 3
        · exact absurd q2 (by rcases hx with q | q; exact absurd q q1; exact q)
        · simp [q1, q2]
    · simp only [zr158_0, zr158_1, zr158_2, zr158_3, zr158_6, zr158_9, zr158_10, zr158_11, zr158_12, zr158_15, zr158_18, zr158_20, zr158_21, zr158_24, zr158_25, zr158_26, zr158_27, zr158_28, zr158_30, zr158_32, zr158_33, zr158_36, zr158_37, zr158_40, zr158_41, zr158_44, zr158_45, zr158_46, zr158_47, zr158_48, zr158_51, zr158_52, zr158_53, zr158_54, zr158_57, zr158_60, zr158_61, zr158_62, zr158_65, zr158_66, zr158_69, zr158_70, zr158_73, zr158_74, zr158_77, zr158_78, zr158_81, zr158_82, zr158_83, zr158_86, zr158_87, zr158_88, zr158_91, zr158_92, zr158_93, zr158_94, zr158_95, zr158_98, zs_m0 N, zs_m1 N, zs_m2 N, zh_m0 ca cb cs, zq_kill_int, zq_kill_ref, zq_kill_ret, zq_kill_null, zq_kill_long, zq_rf_some, zq_rf_none, true_and, and_true, true_implies, not_true_eq_false, not_false_eq_true, false_implies, Bool.true_eq_false, Bool.false_eq_true, nI_1, zb_i0, zb_i1, zb_i2, Option.toList_some, Option.toList_none, List.cons_append, List.nil_append, true_or, or_true, implies_true, zb_it, zb_if, zb_10, zb_00, zb_n5, zb_n2, zb_m1, zb_m3, zb_m9, or_true, true_or, or_false, false_or, k_M_in, zm_in_bad (M1 := 2) hx (by decide) (by omega)]
  · have hin := zm_in_ok (M1 := 2) hk (by decide) (by omega)
    have q0 : (nI k < 0) = False := eq_false (nI_pos (by omega))
    have x1 : zq_xS (nI k) 3 := zb_x (by omega) (by omega)
    have x2 : (nI k).toNatClampNeg = k := zb_cl (by omega)
    by_cases hW0 : W = 0
    · have e0 : (nI W = 0) = True := eq_true (by rw [hW0]; rfl)
      refine ⟨.int (-4), hi, hl, ca, cb, cs, hi, hl, W, P, D, fun Q => ?_, fun Q => ?_, h⟩
      · simp only [zr59_0, zr59_1, zr59_4, zr59_5, zr59_6, zr59_9, zr59_10, zr59_11, zr59_12, zr59_15, zr59_18, zr59_21, zr59_23, zr59_24, zr59_25, zr59_28, zr59_29, zr59_30, zr59_31, zr59_34, zr59_37, zr59_38, zr59_41, zr59_44, zr59_47, zr59_48, zr59_51, zr59_54, zs_x0 N, zh_x0 ca cb cs, hc.1, zq_kill_int, zq_kill_ref, zq_kill_ret, zq_kill_null, zq_kill_long, zq_rf_some, zq_rf_none, true_and, and_true, true_implies, not_true_eq_false, not_false_eq_true, false_implies, Bool.true_eq_false, Bool.false_eq_true, nI_1, zb_i0, zb_i1, zb_i2, Option.toList_some, Option.toList_none, List.cons_append, List.nil_append, true_or, or_true, implies_true, zb_it, zb_if, zb_10, zb_00, zb_n5, zb_n2, zb_m1, zb_m3, zb_m9, or_true, true_or, or_false, false_or, q0, zb_l3 hk, w3, e0]
      · simp only [zr158_0, zr158_1, zr158_2, zr158_3, zr158_6, zr158_9, zr158_10, zr158_11, zr158_12, zr158_15, zr158_18, zr158_20, zr158_21, zr158_24, zr158_25, zr158_26, zr158_27, zr158_28, zr158_30, zr158_32, zr158_33, zr158_36, zr158_37, zr158_40, zr158_41, zr158_44, zr158_45, zr158_46, zr158_47, zr158_48, zr158_51, zr158_52, zr158_53, zr158_54, zr158_57, zr158_60, zr158_61, zr158_62, zr158_65, zr158_66, zr158_69, zr158_70, zr158_73, zr158_74, zr158_77, zr158_78, zr158_81, zr158_82, zr158_83, zr158_86, zr158_87, zr158_88, zr158_91, zr158_92, zr158_93, zr158_94, zr158_95, zr158_98, zs_m0 N, zs_m1 N, zs_m2 N, zh_m0 ca cb cs, zq_kill_int, zq_kill_ref, zq_kill_ret, zq_kill_null, zq_kill_long, zq_rf_some, zq_rf_none, true_and, and_true, true_implies, not_true_eq_false, not_false_eq_true, false_implies, Bool.true_eq_false, Bool.false_eq_true, nI_1, zb_i0, zb_i1, zb_i2, Option.toList_some, Option.toList_none, List.cons_append, List.nil_append, true_or, or_true, implies_true, zb_it, zb_if, zb_10, zb_00, zb_n5, zb_n2, zb_m1, zb_m3, zb_m9, or_true, true_or, or_false, false_or, k_M_in, hin, w4, e0]
    · have e0 : (nI W = 0) = False := eq_false (nI_ne0 (by omega) (by omega))
      have hsp := (hs.2 k hk).2
      have hrk := (hs.2 k hk).1
      have z1 : zq_aW (zq_SG N) 31 := by simp only [zs_x0 N]
      have z2 : zq_lS (zq_SG N) 31 := by simp only [zs_x0 N]
      have z3 : zq_ln (zq_SG N) 31 = 40 := by simp only [zs_x0 N]
      generalize hh : zq_u (zq_w hi (24 + 1 + 2 * k) (va_cpy (hi 31) (hi (24 + 1 + 2 * k)) 0 0 D)) (24 + 2 * k) 1 (nI D) = hi1
      have o1 : ∀ a, a ≠ 24 + 2 * k → a ≠ 24 + 1 + 2 * k → hi1 a = hi a := fun a a1 a2 => by rw [← hh, zq_u_ne a1, zq_w_ne a2]
      have o30 : hi1 30 1 = nI D := by rw [o1 30 (by omega) (by omega)]; exact d2
      have p25 : ∀ i, i < D → hi1 (24 + 1 + 2 * k) i = hi 31 i := fun i hi' => by rw [← hh, zq_u_ne (by omega), zq_w_eq, pk_cpy_in (by omega) (by omega), show 0 + (i - 0) = i by omega]
      have s24 : hi1 (24 + 2 * k) 1 = nI D := by rw [← hh]; exact zq_u_eq
      refine ⟨.int (nI D), hi1, hl, ca, cb, cs, mkp hi1 k D, hl, W, P, D, fun Q => ?_, fun Q => ?_, ?_⟩
      · simp only [zr59_0, zr59_1, zr59_4, zr59_5, zr59_6, zr59_9, zr59_10, zr59_11, zr59_12, zr59_15, zr59_18, zr59_21, zr59_23, zr59_24, zr59_25, zr59_28, zr59_29, zr59_30, zr59_31, zr59_34, zr59_37, zr59_38, zr59_41, zr59_44, zr59_47, zr59_48, zr59_51, zr59_54, zs_x0 N, zh_x0 ca cb cs, hc.1, hs.1, zq_kill_int, zq_kill_ref, zq_kill_ret, zq_kill_null, zq_kill_long, zq_rf_some, zq_rf_none, true_and, and_true, true_implies, not_true_eq_false, not_false_eq_true, false_implies, Bool.true_eq_false, Bool.false_eq_true, nI_1, zb_i0, zb_i1, zb_i2, Option.toList_some, Option.toList_none, List.cons_append, List.nil_append, true_or, or_true, implies_true, zb_it, zb_if, zb_10, zb_00, zb_n5, zb_n2, zb_m1, zb_m3, zb_m9, or_true, true_or, or_false, false_or, q0, zb_l3 hk, w3, e0, x1, x2, hrk, d2, hsp.1, k_Strip_takeFrom (p := 24 + 1 + 2 * k) (b := 0) hsp z1 z2 z3 d0 d0 (show 40 ≤ 1000 by omega) (show 40 ≤ 1000 by omega), hh, o30]
      · exact k_M_keep (d := 56) hk d0 (by rw [o1 60 (by omega) (by omega)]; exact d3) (by rw [o1 60 (by omega) (by omega)]; exact w4) (by omega) w1
      · have lo : ∀ a, a ≠ 77 → a ≠ 78 → mkp hi1 k D a = hi1 a := fun a a1 a2 => by unfold mkp zm_wr; rw [zq_u_ne a1, zq_u_ne a2, zq_w_ne a2, zq_w_ne a2]
        have key : ∀ a, a ≠ 77 → a ≠ 78 → a ≠ 24 + 2 * k → a ≠ 24 + 1 + 2 * k → mkp hi1 k D a = hi a := fun a a1 a2 a3 a4 => by rw [lo a a1 a2, o1 a a3 a4]
        have u77 : ∀ j, mkp hi1 k D 77 j = if j = k then 1 else hi 77 j := fun j => by
          unfold mkp
          by_cases e : j = k
          · subst e; rw [zq_u_eq, if_pos rfl]
          · rw [zq_u_kn e, if_neg e, zq_u_ne (by omega)]; unfold zm_wr; rw [zq_w_ne (by omega), zq_w_ne (by omega), o1 77 (by omega) (by omega)]
        have i76 : hi1 76 = hi 76 := o1 76 (by omega) (by omega)
        have i78 : hi1 78 = hi 78 := o1 78 (by omega) (by omega)
        have u78 : mkp hi1 k D 78 (698 * k + 697) = nI D := by unfold mkp; rw [zq_u_ne (by omega), zq_u_eq]
        have v78 : ∀ r, r < 17 → mkp hi1 k D 78 (698 * k + 680 + r) = zm_sn hi r := fun r hr => by
          unfold mkp
          rw [zq_u_ne (by omega), zq_u_kn (by omega)]
          unfold zm_wr
          rw [zq_w_eq, zm_wk_in (by omega), show 698 * k + 680 + r - (698 * k + 680) = r by omega]
          unfold zm_sn
          rw [zq_w_ne (by omega), zq_w_ne (by omega), zq_w_ne (by omega), o1 60 (by omega) (by omega), o1 74 (by omega) (by omega), o1 75 (by omega) (by omega)]
        have n78 : ∀ r, r < 17 * D → mkp hi1 k D 78 (698 * k + r) = hi 76 r := fun r hr => by
          unfold mkp
          rw [zq_u_ne (by omega), zq_u_kn (by omega)]
          unfold zm_wr
          rw [zq_w_eq, zm_wk_out (by omega), zq_w_eq, pk_cpy_in (by omega) (by omega), i76, show 0 + (698 * k + r - 698 * k) = r by omega]
        have o78 : ∀ j, j < 698 * k ∨ 698 * k + 698 ≤ j → mkp hi1 k D 78 j = hi 78 j := fun j hj => by
          unfold mkp
          rw [zq_u_ne (by omega), zq_u_kn (by omega)]
          unfold zm_wr
          rw [zq_w_eq, zm_wk_out (by omega), zq_w_eq, pk_cpy_out (by omega), i78]
        obtain ⟨s1, s2, ⟨t1, t2, t3, t4, t5⟩, s4, s5, s6, s7⟩ := h
        have ttr : zm_tr (mkp hi1 k D) = zm_tr hi := zm_tr_fr (key _ (by omega) (by omega) (by omega) (by omega)) (key _ (by omega) (by omega) (by omega) (by omega))
        refine ⟨s1, s2, ⟨?_, t2, t3, ?_, fun f hf => ?_⟩, ?_, ?_, ?_, ?_⟩
        · rw [key 0 (by omega) (by omega) (by omega) (by omega), key 60 (by omega) (by omega) (by omega) (by omega)]; exact t1
        · rw [key 0 (by omega) (by omega) (by omega) (by omega), key 60 (by omega) (by omega) (by omega) (by omega)]; exact t4
        · rw [key 35 (by omega) (by omega) (by omega) (by omega), key 61 (by omega) (by omega) (by omega) (by omega)]; exact t5 f hf
        · exact sm_st_fr s4 (fun r hr => ⟨by rw [key _ (by omega) (by omega) (by omega) (by omega)], key _ (by omega) (by omega) (by omega) (by omega)⟩) (key _ (by omega) (by omega) (by omega) (by omega)) (key _ (by omega) (by omega) (by omega) (by omega))
        · exact sm_st_fr s5 (fun r hr => ⟨by rw [key _ (by omega) (by omega) (by omega) (by omega)], key _ (by omega) (by omega) (by omega) (by omega)⟩) (key _ (by omega) (by omega) (by omega) (by omega)) (key _ (by omega) (by omega) (by omega) (by omega))
        · exact sm_ct_fr s6 (fun a ha => key a (by omega) (by omega) (by omega) (by omega)) (by rw [key 60 (by omega) (by omega) (by omega) (by omega)]; exact ⟨rfl, rfl, rfl⟩)
        · unfold sm_dd
          rw [ttr, key 30 (by omega) (by omega) (by omega) (by omega), key 31 (by omega) (by omega) (by omega) (by omega), key 32 (by omega) (by omega) (by omega) (by omega), key 33 (by omega) (by omega) (by omega) (by omega), key 34 (by omega) (by omega) (by omega) (by omega), key 60 (by omega) (by omega) (by omega) (by omega), key 74 (by omega) (by omega) (by omega) (by omega), key 75 (by omega) (by omega) (by omega) (by omega)]
          refine ⟨⟨d0, d1, d2, d3, d4, d5⟩, hdd, ⟨c1, c2, c3, c4⟩, ⟨m1, m2, m3⟩, fun i hi' => ?_, fun j hj => ?_⟩
          · unfold sm_note
            rw [key 76 (by omega) (by omega) (by omega) (by omega)]
            exact nn i hi'
          · by_cases e : j = k
            · subst e
              have rsE : ∀ i, i ≤ D → rs (zm_tr hi) W (mkp hi1 j D (25 + 2 * j)) i = rs (zm_tr hi) W (hi 31) i := fun i hi' => (rs_cong w1 (fun q hq => by rw [lo _ (by omega) (by omega), show 25 + 2 * j = 24 + 1 + 2 * j by omega]; exact (p25 q (by omega)).symm) (fun _ _ => rfl) (fun q hq => hdd q (by omega))).symm
              refine Or.inr ⟨D, d0, by omega, ?_, ?_, u78, fun i hi' => ?_, fun i hi' => ?_, ?_⟩
              · rw [lo _ (by omega) (by omega)]; exact s24
              · rw [u77, if_pos rfl]
              · rw [lo _ (by omega) (by omega), show 25 + 2 * j = 24 + 1 + 2 * j by omega, p25 i hi']; exact hdd i hi'
              · rw [rsE i (by omega)]
                obtain ⟨n1, n2, n3, n4⟩ := nn i hi'
                refine ⟨?_, ?_, ?_, fun w hw => ⟨?_, ?_⟩⟩
                · rw [n78 _ (by omega)]; exact n1
                · rw [show 698 * j + 17 * i + 1 = 698 * j + (17 * i + 1) by omega, n78 _ (by omega)]; exact n2
                · rw [show 698 * j + 17 * i + 2 = 698 * j + (17 * i + 2) by omega, n78 _ (by omega)]; exact n3
                · rw [show 698 * j + 17 * i + 3 + w = 698 * j + (17 * i + 3 + w) by omega, n78 _ (by omega)]; exact (n4 w hw).1
                · rw [show 698 * j + 17 * i + 10 + w = 698 * j + (17 * i + 10 + w) by omega, n78 _ (by omega)]; exact (n4 w hw).2
              · rw [rsE D (by omega)]
                refine ⟨(v78 0 (by omega)).trans d5, (v78 1 (by omega)).trans m1, (v78 2 (by omega)).trans m2, fun w hw => ⟨?_, ?_⟩⟩
                · rw [show 698 * j + 680 + 3 + w = 698 * j + 680 + (3 + w) by omega, v78 _ (by omega)]
                  unfold zm_sn
                  rw [if_neg (by omega), if_neg (by omega), if_neg (by omega), if_pos (by omega), show 3 + w - 3 = w by omega]
                  exact (m3 w hw).1
                · rw [show 698 * j + 680 + 10 + w = 698 * j + 680 + (10 + w) by omega, v78 _ (by omega)]
                  unfold zm_sn
                  rw [if_neg (by omega), if_neg (by omega), if_neg (by omega), if_neg (by omega), show 10 + w - 10 = w by omega]
                  exact (m3 w hw).2
            · rw [key (24 + 2 * j) (by omega) (by omega) (by omega) (by omega), key (25 + 2 * j) (by omega) (by omega) (by omega) (by omega), u77, if_neg e]
              rcases kk j hj with q | ⟨n, hn, hw0, n1, n2, n3, n4, n5, n6⟩
              · exact Or.inl q
              · refine Or.inr ⟨n, hn, hw0, n1, n2, ?_, n4, fun i hi' => ?_, ?_⟩
                · rw [o78 _ (by omega)]; exact n3
                · obtain ⟨a1, a2, a3, a4⟩ := n5 i hi'
                  refine ⟨?_, ?_, ?_, fun w hw => ⟨?_, ?_⟩⟩
                  · rw [o78 _ (by omega)]; exact a1
                  · rw [o78 _ (by omega)]; exact a2
                  · rw [o78 _ (by omega)]; exact a3
                  · rw [o78 _ (by omega)]; exact (a4 w hw).1
                  · rw [o78 _ (by omega)]; exact (a4 w hw).2
                · obtain ⟨a1, a2, a3, a4⟩ := n6
                  refine ⟨?_, ?_, ?_, fun w hw => ⟨?_, ?_⟩⟩
                  · rw [o78 _ (by omega)]; exact a1
                  · rw [o78 _ (by omega)]; exact a2
                  · rw [o78 _ (by omega)]; exact a3
                  · rw [o78 _ (by omega)]; exact (a4 w hw).1
                  · rw [o78 _ (by omega)]; exact (a4 w hw).2
theorem p_on : zq_pair N 61 159 [.ref 0, .int x] [.ref 60, .int x, .retAddr 0, .retAddr 0] := by
  intro hi hl ca cb cs W P D h
  have hca := h.court
  have hs := zq_Ss_kept (N := N) (ca := ca) (cb := cb) (cs := cs)
  have hct := h.2.2.2.2.2.1
  obtain ⟨⟨w1, w2, w3, w4, w5, w6, -⟩, -, wa⟩ := id hct
  obtain ⟨⟨d0, d1, d2, d3, d4, d5⟩, hdd, ⟨c1, c2, c3, c4⟩, ⟨m1, m2, m3⟩, nn, kk⟩ := id h.2.2.2.2.2.2
  have e3I : (nI 3 : Int32) = 3 := rfl
  rcases zb_ix x 3 (by omega) with hx | ⟨k, hk, rfl⟩
  · refine ⟨.int (-1), hi, hl, ca, cb, cs, hi, hl, W, P, D, fun Q => ?_, fun Q => ?_, h⟩
    · rw [e3I] at hx
      simp only [zr61_0, zr61_1, zr61_4, zr61_5, zr61_6, zr61_9, zr61_10, zr61_11, zr61_12, zr61_15, zr61_16, zr61_17, zr61_20, zr61_23, zr61_24, zr61_25, zr61_28, zr61_29, zr61_30, zr61_33, zr61_34, zr61_37, zr61_38, zr61_39, zr61_42, zr61_43, zr61_46, zr61_47, zr61_48, zr61_51, zr61_54, zr61_55, zr61_58, zr61_59, zr61_62, zr61_65, zs_x0 N, zh_x0 ca cb cs, zq_kill_int, zq_kill_ref, zq_kill_ret, zq_kill_null, zq_kill_long, zq_rf_some, zq_rf_none, true_and, and_true, true_implies, not_true_eq_false, not_false_eq_true, false_implies, Bool.true_eq_false, Bool.false_eq_true, nI_1, zb_i0, zb_i1, zb_i2, Option.toList_some, Option.toList_none, List.cons_append, List.nil_append, true_or, or_true, implies_true, zb_it, zb_if, zb_10, zb_00, zb_n5, zb_n2, zb_m1, zb_m3, zb_m9, or_true, true_or, or_false, false_or]
      by_cases q1 : x < 0
      · simp [q1]
      · by_cases q2 : x < 3
        · exact absurd q2 (by rcases hx with q | q; exact absurd q q1; exact q)
        · simp [q1, q2]
    · simp only [zr159_0, zr159_1, zr159_2, zr159_3, zr159_6, zr159_9, zr159_10, zr159_11, zr159_12, zr159_15, zr159_16, zr159_17, zr159_20, zr159_21, zr159_22, zr159_25, zr159_26, zr159_29, zr159_30, zr159_31, zr159_32, zr159_33, zr159_34, zr159_37, zr159_38, zr159_41, zr159_42, zr159_45, zr159_46, zr159_47, zr159_50, zr159_51, zr159_54, zr159_55, zr159_56, zr159_59, zr159_60, zr159_62, zr159_64, zr159_65, zr159_68, zr159_69, zr159_72, zr159_73, zr159_76, zr159_77, zr159_78, zr159_81, zr159_82, zr159_83, zr159_84, zr159_85, zr159_86, zr159_89, zr159_92, zr159_93, zr159_96, zs_m0 N, zs_m1 N, zs_m2 N, zh_m0 ca cb cs, zq_kill_int, zq_kill_ref, zq_kill_ret, zq_kill_null, zq_kill_long, zq_rf_some, zq_rf_none, true_and, and_true, true_implies, not_true_eq_false, not_false_eq_true, false_implies, Bool.true_eq_false, Bool.false_eq_true, nI_1, zb_i0, zb_i1, zb_i2, Option.toList_some, Option.toList_none, List.cons_append, List.nil_append, true_or, or_true, implies_true, zb_it, zb_if, zb_10, zb_00, zb_n5, zb_n2, zb_m1, zb_m3, zb_m9, or_true, true_or, or_false, false_or, k_M_in, zm_in_bad (M1 := 2) hx (by decide) (by omega)]
  · have hin := zm_in_ok (M1 := 2) hk (by decide) (by omega)
    have q0 : (nI k < 0) = False := eq_false (nI_pos (by omega))
    have x1 : zq_xS (nI k) 3 := zb_x (by omega) (by omega)
    have x2 : (nI k).toNatClampNeg = k := zb_cl (by omega)
    have hsp := (hs.2 k hk).2
    have hrk := (hs.2 k hk).1
    have hsp2 := hsp
    unfold zq_Sp at hsp2
    rcases kk k hk with ⟨e1, e2⟩ | ⟨n, hn, hw0, n1, n2, n3, n4, n5, n6⟩
    · refine ⟨.int (-3), cf hi 1, hl, ca, cb, cs, mf (cf hi 1) 1, hl, W, P, D, fun Q => ?_, fun Q => ?_, h.meet (by omega)⟩
      · simp only [zr61_0, zr61_1, zr61_4, zr61_5, zr61_6, zr61_9, zr61_10, zr61_11, zr61_12, zr61_15, zr61_16, zr61_17, zr61_20, zr61_23, zr61_24, zr61_25, zr61_28, zr61_29, zr61_30, zr61_33, zr61_34, zr61_37, zr61_38, zr61_39, zr61_42, zr61_43, zr61_46, zr61_47, zr61_48, zr61_51, zr61_54, zr61_55, zr61_58, zr61_59, zr61_62, zr61_65, zr15_0, zr15_1, zr15_4, zr15_7, zr15_8, zr15_11, zr15_12, zs_x0 N, zh_x0 ca cb cs, hs.1, hsp2, zq_kill_int, zq_kill_ref, zq_kill_ret, zq_kill_null, zq_kill_long, zq_rf_some, zq_rf_none, true_and, and_true, true_implies, not_true_eq_false, not_false_eq_true, false_implies, Bool.true_eq_false, Bool.false_eq_true, nI_1, zb_i0, zb_i1, zb_i2, Option.toList_some, Option.toList_none, List.cons_append, List.nil_append, true_or, or_true, implies_true, zb_it, zb_if, zb_10, zb_00, zb_n5, zb_n2, zb_m1, zb_m3, zb_m9, or_true, true_or, or_false, false_or, q0, zb_l3 hk, x1, x2, hrk, e1, k_EF_found1]
      · have e4 : cf hi 1 77 k = 0 := by unfold cf; simp [zq_u, e2]
        simp only [zr159_0, zr159_1, zr159_2, zr159_3, zr159_6, zr159_9, zr159_10, zr159_11, zr159_12, zr159_15, zr159_16, zr159_17, zr159_20, zr159_21, zr159_22, zr159_25, zr159_26, zr159_29, zr159_30, zr159_31, zr159_32, zr159_33, zr159_34, zr159_37, zr159_38, zr159_41, zr159_42, zr159_45, zr159_46, zr159_47, zr159_50, zr159_51, zr159_54, zr159_55, zr159_56, zr159_59, zr159_60, zr159_62, zr159_64, zr159_65, zr159_68, zr159_69, zr159_72, zr159_73, zr159_76, zr159_77, zr159_78, zr159_81, zr159_82, zr159_83, zr159_84, zr159_85, zr159_86, zr159_89, zr159_92, zr159_93, zr159_96, zs_m0 N, zs_m1 N, zs_m2 N, zh_m0 ca cb cs, zq_kill_int, zq_kill_ref, zq_kill_ret, zq_kill_null, zq_kill_long, zq_rf_some, zq_rf_none, true_and, and_true, true_implies, not_true_eq_false, not_false_eq_true, false_implies, Bool.true_eq_false, Bool.false_eq_true, nI_1, zb_i0, zb_i1, zb_i2, Option.toList_some, Option.toList_none, List.cons_append, List.nil_append, true_or, or_true, implies_true, zb_it, zb_if, zb_10, zb_00, zb_n5, zb_n2, zb_m1, zb_m3, zb_m9, or_true, true_or, or_false, false_or, k_M_in, hin, x1, x2, e4, k_M_meet1]
    · have q1 : (nI n < 0) = False := eq_false (nI_pos (by omega))
      have hd30 : zq_Sp (zq_SG N) (zq_HR ca cb cs) 30 31 40 := by unfold zq_Sp; simp only [zs_x0 N, zh_x0 ca cb cs, and_self]
      generalize hh0 : zq_u (zq_w hi 31 (va_cpy (hi (24 + 1 + 2 * k)) (hi 31) 0 0 n)) 30 1 (nI n) = hi0
      have o0 : ∀ a, a ≠ 30 → a ≠ 31 → hi0 a = hi a := fun a a1 a2 => by rw [← hh0, zq_u_ne a1, zq_w_ne a2]
      have p31 : ∀ i, i < n → hi0 31 i = hi (25 + 2 * k) i := fun i hi' => by rw [← hh0, zq_u_ne (by omega), zq_w_eq, pk_cpy_in (by omega) (by omega), show 24 + 1 + 2 * k = 25 + 2 * k by omega, show 0 + (i - 0) = i by omega]
      have i30 : hi0 30 1 = nI n := by rw [← hh0]; exact zq_u_eq
      have hdd0 : dd_ok W (hi0 31) n := fun i hi' => by rw [p31 i hi']; exact n4 i hi'
      have rsE : ∀ i, i ≤ n → rs (zm_tr hi) W (hi0 31) i = rs (zm_tr hi) W (hi (25 + 2 * k)) i := fun i hi' => (rs_cong w1 (fun q hq => (p31 q (by omega)).symm) (fun _ _ => rfl) (fun q hq => n4 q (by omega))).symm
      have rsC : rs (hi0 (ca + 6)) W (hi0 31) n = rs (zm_tr hi) W (hi0 31) n := rs_cong w1 (fun _ _ => rfl) (fun w hw => by rw [o0 _ (by omega) (by omega)]; exact (wa w hw).2.2.2.1) hdd0
      generalize hh : zc_rs hi0 (rs (zm_tr hi) W (hi0 31) n) n = hi1
      have o1 : ∀ a, a ≠ 30 → a ≠ 31 → (a < 32 ∨ 34 < a) → hi1 a = hi a := fun a a1 a2 a3 => by rw [← hh, zc_rs_o a3, o0 a a1 a2]
      refine ⟨.int (nI n), hi1, hl, ca, cb, cs, mon hi1 k n, hl, W, P, n, fun Q => ?_, fun Q => ?_, ?_⟩
      · have r := fun Q => k_EF_replay (Q := Q) (N := N) (cb := cb) (cs := cs) (d := 55) (hl := hl) (hi := hi0) hca (by rw [o0 _ (by omega) (by omega)]; exact w3) w1 hn i30 hdd0
        rw [rsC, hh] at r
        have e30 : hi1 30 1 = nI n := by rw [← hh, zc_rs_o (by omega)]; exact i30
        simp only [zr61_0, zr61_1, zr61_4, zr61_5, zr61_6, zr61_9, zr61_10, zr61_11, zr61_12, zr61_15, zr61_16, zr61_17, zr61_20, zr61_23, zr61_24, zr61_25, zr61_28, zr61_29, zr61_30, zr61_33, zr61_34, zr61_37, zr61_38, zr61_39, zr61_42, zr61_43, zr61_46, zr61_47, zr61_48, zr61_51, zr61_54, zr61_55, zr61_58, zr61_59, zr61_62, zr61_65, zr15_0, zr15_1, zr15_4, zr15_7, zr15_8, zr15_11, zr15_12, zs_x0 N, zh_x0 ca cb cs, hs.1, hsp2, zq_kill_int, zq_kill_ref, zq_kill_ret, zq_kill_null, zq_kill_long, zq_rf_some, zq_rf_none, true_and, and_true, true_implies, not_true_eq_false, not_false_eq_true, false_implies, Bool.true_eq_false, Bool.false_eq_true, nI_1, zb_i0, zb_i1, zb_i2, Option.toList_some, Option.toList_none, List.cons_append, List.nil_append, true_or, or_true, implies_true, zb_it, zb_if, zb_10, zb_00, zb_n5, zb_n2, zb_m1, zb_m3, zb_m9, or_true, true_or, or_false, false_or, q0, zb_l3 hk, x1, x2, hrk, n1, q1, k_Strip_takeFrom (p := 31) (b := 0) hd30 hsp2.2.2.2.1 hsp2.2.2.2.2.1 hsp2.2.2.2.2.2 hn hn (show 40 ≤ 1000 by omega) (show 40 ≤ 1000 by omega), hh0, r, e30]
      · exact k_M_on (d := 56) hk hn (by rw [o1 _ (by omega) (by omega) (by omega)]; exact n2) (by rw [o1 _ (by omega) (by omega) (by omega)]; exact n3)
      · have lo : ∀ a, a < 60 → mon hi1 k n a = hi1 a := fun a ha => by
          unfold mon zm_rd zm_rk
          rw [zq_w_ne (by omega), zq_u_ne (by omega), zq_w_ne (by omega), zq_w_ne (by omega), zq_u_ne (by omega), zq_u_ne (by omega), zq_u_ne (by omega)]
        have up : ∀ a, 60 < a → a ≠ 74 → a ≠ 75 → a ≠ 76 → mon hi1 k n a = hi a := fun a ha a4 a5 a6 => by
          unfold mon zm_rd zm_rk
          rw [zq_w_ne (by omega), zq_u_ne (by omega), zq_w_ne (by omega), zq_w_ne (by omega), zq_u_ne (by omega), zq_u_ne (by omega), zq_u_ne (by omega), o1 a (by omega) (by omega) (by omega)]
        have f60 : ∀ f, f ≠ 25 ∧ f ≠ 26 ∧ f ≠ 27 ∧ f ≠ 30 → mon hi1 k n 60 f = hi 60 f := fun f hf => by
          unfold mon zm_rd zm_rk
          rw [zq_w_ne (by omega), zq_u_kn (by omega), zq_w_ne (by omega), zq_w_ne (by omega), zq_u_kn (by omega), zq_u_kn (by omega), zq_u_kn (by omega), o1 60 (by omega) (by omega) (by omega)]
        have i78 : hi1 78 = hi 78 := o1 78 (by omega) (by omega) (by omega)
        have i76 : ∀ r, r < 17 * n → mon hi1 k n 76 r = hi 78 (698 * k + r) := fun r hr => by
          unfold mon
          rw [zq_w_eq, pk_cpy_in (by omega) (by omega), i78]
          congr 1
        have mm : mon hi1 k n 60 30 = nI n ∧ mon hi1 k n 60 25 = nI n ∧ eqW W (mq (mon hi1 k n)) (rs (zm_tr hi) W (hi0 31) n) := by
          rw [rsE n (Nat.le_refl _)]
          obtain ⟨a1, a2, a3, a4⟩ := n6
          unfold mq eqW mon zm_rd zm_rk
          rw [i78]
          refine ⟨?_, ?_, ?_, ?_, fun w hw => ⟨?_, ?_⟩⟩
          · rw [zq_w_ne (by omega), zq_u_eq]
          · rw [zq_w_ne (by omega), zq_u_kn (by omega), zq_w_ne (by omega), zq_w_ne (by omega), zq_u_kn (by omega), zq_u_kn (by omega), zq_u_eq]; exact a1
          · dsimp only
            rw [zq_w_ne (by omega), zq_u_kn (by omega), zq_w_ne (by omega), zq_w_ne (by omega), zq_u_kn (by omega), zq_u_eq]; exact a2
          · dsimp only
            rw [zq_w_ne (by omega), zq_u_kn (by omega), zq_w_ne (by omega), zq_w_ne (by omega), zq_u_eq]; exact a3
          · dsimp only
            rw [zq_w_ne (by omega), zq_u_ne (by omega), zq_w_ne (by omega), zq_w_eq, if_pos (by omega)]; exact (a4 w hw).1
          · dsimp only
            rw [zq_w_ne (by omega), zq_u_ne (by omega), zq_w_eq, if_pos (by omega)]; exact (a4 w hw).2
        have kl : ∀ a, a < 60 → a ≠ 30 → a ≠ 31 → (a < 32 ∨ 34 < a) → mon hi1 k n a = hi a := fun a a1 a2 a3 a4 => by rw [lo a a1, o1 a a2 a3 a4]
        obtain ⟨s1, s2, ⟨t1, t2, t3, t4, t5⟩, s4, s5, s6, s7⟩ := h
        have ttr : zm_tr (mon hi1 k n) = zm_tr hi := zm_tr_fr (up _ (by omega) (by omega) (by omega) (by omega)) (up _ (by omega) (by omega) (by omega) (by omega))
        refine ⟨s1, s2, ⟨?_, t2, t3, ?_, fun f hf => ?_⟩, ?_, ?_, ?_, ?_⟩
        · rw [kl 0 (by omega) (by omega) (by omega) (by omega), f60 2 (by omega)]; exact t1
        · rw [kl 0 (by omega) (by omega) (by omega) (by omega), f60 0 (by omega)]; exact t4
        · rw [kl 35 (by omega) (by omega) (by omega) (by omega), up 61 (by omega) (by omega) (by omega) (by omega)]; exact t5 f hf
        · exact sm_st_fr s4 (fun r hr => ⟨by rw [kl _ (by omega) (by omega) (by omega) (by omega)], kl _ (by omega) (by omega) (by omega) (by omega)⟩) (up _ (by omega) (by omega) (by omega) (by omega)) (up _ (by omega) (by omega) (by omega) (by omega))
        · exact sm_st_fr s5 (fun r hr => ⟨by rw [kl _ (by omega) (by omega) (by omega) (by omega)], kl _ (by omega) (by omega) (by omega) (by omega)⟩) (up _ (by omega) (by omega) (by omega) (by omega)) (up _ (by omega) (by omega) (by omega) (by omega))
        · exact sm_ct_fr s6 (fun a ha => by rcases ha with ha | ha; exact kl a (by omega) (by omega) (by omega) (by omega); exact up a (by omega) (by omega) (by omega) (by omega)) ⟨f60 _ (by omega), f60 _ (by omega), f60 _ (by omega)⟩
        · have i31 : mon hi1 k n 31 = hi0 31 := by rw [lo 31 (by omega), ← hh, zc_rs_o (by omega)]
          have i32 : ∀ f, mon hi1 k n 32 f = zc_rs hi0 (rs (zm_tr hi) W (hi0 31) n) n 32 f := fun f => by rw [lo 32 (by omega), ← hh]
          unfold sm_dd
          rw [ttr, i31]
          refine ⟨⟨by omega, fun e => absurd e (by omega), ?_, mm.1, ?_, mm.2.1⟩, hdd0, ⟨?_, ?_, ?_, fun w hw => ⟨?_, ?_⟩⟩, mm.2.2, fun i hi' => ?_, fun j hj => ?_⟩
          · rw [lo 30 (by omega), ← hh, zc_rs_o (by omega)]; exact i30
          · rw [i32, zc_rs_32]; rfl
          · rw [i32, zc_rs_32]; rfl
          · rw [i32, zc_rs_32]; rfl
          · rw [i32, zc_rs_32]; rfl
          · rw [lo 33 (by omega), ← hh, zc_rs_33]; exact if_pos (by omega)
          · rw [lo 34 (by omega), ← hh, zc_rs_34]; exact if_pos (by omega)
          · rw [rsE i (by omega)]
            obtain ⟨a1, a2, a3, a4⟩ := n5 i hi'
            refine ⟨?_, ?_, ?_, fun w hw => ⟨?_, ?_⟩⟩
            · rw [i76 _ (by omega)]; exact a1
            · rw [i76 _ (by omega)]; exact a2
            · rw [i76 _ (by omega)]; exact a3
            · rw [i76 _ (by omega), show 698 * k + (17 * i + 3 + w) = 698 * k + 17 * i + 3 + w by omega]; exact (a4 w hw).1
            · rw [i76 _ (by omega), show 698 * k + (17 * i + 10 + w) = 698 * k + 17 * i + 10 + w by omega]; exact (a4 w hw).2
          · unfold sm_note
            rw [kl (24 + 2 * j) (by omega) (by omega) (by omega) (by omega), kl (25 + 2 * j) (by omega) (by omega) (by omega) (by omega), up 77 (by omega) (by omega) (by omega) (by omega), up 78 (by omega) (by omega) (by omega) (by omega)]
            exact kk j hj
end Z38b
