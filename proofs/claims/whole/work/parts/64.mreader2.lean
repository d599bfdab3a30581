/-! The reference reads people, ways, all -/
def MP (H : zq_I) (s : rdT) : Prop := H 60 20 = nI s.1 ∧ ∀ k, k < s.1 → H 72 (2 * k) = nI (s.2.1 k) ∧ H 72 (2 * k + 1) = nI (s.2.2 k)
def MW (H : zq_I) (s : wyT) : Prop := H 60 21 = nI s.1 ∧ ∀ w, w < s.1 → H 73 (3 * w) = nI (s.2.1 w) ∧ H 73 (3 * w + 1) = nI (s.2.2.1 w) ∧ H 73 (3 * w + 2) = nI (s.2.2.2 w)
theorem zb_m2 (r : Nat) : (2 : Int32) * nI r = nI (2 * r) := pk_mul 2 r
theorem zb_m3' (r : Nat) : (3 : Int32) * nI r = nI (3 * r) := pk_mul 3 r
theorem zb_13 : ((1 : Int32) <<< (nI 3 &&& 31)) - 1 = nI (2 ^ 3 - 1) := by decide
section Z64
variable {N ca cb cs d n i j P W : Nat} {H M : zq_I} {f : Nat → Int32} {hl : zq_J} {Q : Option Value → zq_G → Prop} {x : Int32} {rnd trn kd tb nd : Nat → Nat}
theorem k_M_readsOne (hj : j < 4) (hn : n ≤ 60) (ht : txt H f n j) (h18 : H 60 18 = nI i) (hi : i < n) (hP : P < 3) (hp : MP H (P, rnd, trn)) (h21 : H 60 21 = 0) :
    ∃ H', mrf H H' ∧ H' 60 19 = H 60 19 ∧ H' 60 21 = H 60 21 ∧ ((∃ q, (fgv f n (i + 1) 7 = none ∧ q = i + 1 ∨ (∃ r, fgv f n (i + 1) 7 = some r ∧ (r < 2 ∧ q = i + 1 ∨ ¬ r < 2 ∧ fgv f n (i + 2) (r - 1) = none ∧ q = i + 2))) ∧ H' 60 18 = nI q ∧ ∀ Q, zq_P (d + 2) 134 0 [.ref 60, .int (nI j)] [] (zq_SG N, H, hl, zq_HR ca cb cs) Q = Q (some (.int 0)) (zq_SG N, H', hl, zq_HR ca cb cs)) ∨
      ∃ r t, fgv f n (i + 1) 7 = some r ∧ ¬ r < 2 ∧ fgv f n (i + 2) (r - 1) = some t ∧ H' 60 18 = nI (i + 3) ∧ MP H' (P + 1, upn rnd P r, upn trn P t) ∧ ∀ Q, zq_P (d + 2) 134 0 [.ref 60, .int (nI j)] [] (zq_SG N, H, hl, zq_HR ca cb cs) Q = Q (some (.int 1)) (zq_SG N, H', hl, zq_HR ca cb cs)) := by
  have q3 : (nI P = 3) = False := by rw [show (3 : Int32) = nI 3 from rfl, zb_eq (by omega) (by omega)]; exact eq_false (by omega)
  have h20 : H 60 20 = nI P := hp.1
  have z0 : ((0 : Int32) < 0) = False := zb_00
  generalize hH1 : zq_u H 60 18 (nI (i + 1)) = H1
  have m1 : mrf H H1 := by rw [← hH1]; exact mrf_60 (by omega)
  have t1 := txt_fr ht m1
  have a18 : H1 60 18 = nI (i + 1) := by rw [← hH1, zq_u_eq]
  have o1 : ∀ g, g ≠ 18 → H1 60 g = H 60 g := fun g hg => by rw [← hH1, zq_u_kn hg]
  have no7 := fun hv Q => k_M_figure_no (N := N) (ca := ca) (cb := cb) (cs := cs) (d := d) (hl := hl) (Q := Q) (h := 7) (lo := 2) hj hn t1 a18 (show i + 1 ≤ n by omega) (by omega) (by omega) hv
  have no7' : _ → ∀ Q, zq_P (d + 1) 133 0 [.ref 60, .int (nI j), .int 2, .int 7, .retAddr 0] [] (zq_SG N, H1, hl, zq_HR ca cb cs) Q = Q (some (.int 0)) (zq_SG N, H1, hl, zq_HR ca cb cs) := no7
  cases h7 : fgv f n (i + 1) 7 with
  | none =>
    have nn := no7' (Or.inl h7)
    refine ⟨H1, m1, o1 _ (by omega), o1 _ (by omega), Or.inl ⟨i + 1, Or.inl ⟨rfl, rfl⟩, a18, fun Q => ?_⟩⟩
    simp only [zr134_0, zr134_1, zr134_4, zr134_5, zr134_8, zr134_9, zr134_12, zr134_15, zr134_16, zr134_17, zr134_18, zr134_19, zr134_22, zr134_23, zr134_24, zr134_27, zr134_28, zr134_29, zr134_30, zr134_32, zr134_35, zr134_38, zr134_39, zr134_40, zr134_41, zr134_44, zr134_45, zr134_46, zr134_49, zr134_50, zr134_51, zr134_54, zr134_55, zr134_56, zr134_57, zr134_58, zr134_59, zr134_62, zr134_63, zr134_64, zr134_67, zr134_70, zr134_71, zr134_72, zr134_73, zr134_76, zr134_77, zr134_78, zr134_81, zr134_82, zr134_83, zr134_84, zr134_85, zr134_88, zr134_89, zr134_90, zr134_91, zr134_94, zr134_95, zr134_96, zr134_99, zr134_100, zs_m0 N, zs_m1 N, zs_m2 N, zh_m0 ca cb cs, zq_kill_int, zq_kill_ref, zq_kill_ret, zq_kill_null, zq_kill_long, zq_rf_some, zq_rf_none, true_and, and_true, true_implies, not_true_eq_false, not_false_eq_true, false_implies, Bool.true_eq_false, Bool.false_eq_true, nI_1, zb_i0, zb_i1, zb_i2, Option.toList_some, Option.toList_none, List.cons_append, List.nil_append, true_or, or_true, implies_true, zb_it, zb_if, zb_10, zb_00, zb_n5, zb_n2, zb_m1, zb_m3, zb_m9, or_true, true_or, or_false, false_or, h20, q3, h21, h18, hH1, nn]
  | some r =>
    obtain ⟨r1, r2, -⟩ := fgv_some (by omega) h7
    by_cases q2 : r < 2
    · have nn := no7' (Or.inr ⟨r, h7, q2⟩)
      refine ⟨H1, m1, o1 _ (by omega), o1 _ (by omega), Or.inl ⟨i + 1, Or.inr ⟨r, rfl, Or.inl ⟨q2, rfl⟩⟩, a18, fun Q => ?_⟩⟩
      simp only [zr134_0, zr134_1, zr134_4, zr134_5, zr134_8, zr134_9, zr134_12, zr134_15, zr134_16, zr134_17, zr134_18, zr134_19, zr134_22, zr134_23, zr134_24, zr134_27, zr134_28, zr134_29, zr134_30, zr134_32, zr134_35, zr134_38, zr134_39, zr134_40, zr134_41, zr134_44, zr134_45, zr134_46, zr134_49, zr134_50, zr134_51, zr134_54, zr134_55, zr134_56, zr134_57, zr134_58, zr134_59, zr134_62, zr134_63, zr134_64, zr134_67, zr134_70, zr134_71, zr134_72, zr134_73, zr134_76, zr134_77, zr134_78, zr134_81, zr134_82, zr134_83, zr134_84, zr134_85, zr134_88, zr134_89, zr134_90, zr134_91, zr134_94, zr134_95, zr134_96, zr134_99, zr134_100, zs_m0 N, zs_m1 N, zs_m2 N, zh_m0 ca cb cs, zq_kill_int, zq_kill_ref, zq_kill_ret, zq_kill_null, zq_kill_long, zq_rf_some, zq_rf_none, true_and, and_true, true_implies, not_true_eq_false, not_false_eq_true, false_implies, Bool.true_eq_false, Bool.false_eq_true, nI_1, zb_i0, zb_i1, zb_i2, Option.toList_some, Option.toList_none, List.cons_append, List.nil_append, true_or, or_true, implies_true, zb_it, zb_if, zb_10, zb_00, zb_n5, zb_n2, zb_m1, zb_m3, zb_m9, or_true, true_or, or_false, false_or, h20, q3, h21, h18, hH1, nn]
    · have ok7 : ∀ Q, zq_P (d + 1) 133 0 [.ref 60, .int (nI j), .int 2, .int 7, .retAddr 0] [] (zq_SG N, H1, hl, zq_HR ca cb cs) Q = Q (some (.int 1)) (zq_SG N, fgh H1 r (i + 1), hl, zq_HR ca cb cs) := fun Q => k_M_figure_ok (h := 7) (lo := 2) hj hn t1 a18 (by omega) (by omega) h7 (by omega)
      generalize hH2 : fgh H1 r (i + 1) = H2 at ok7
      have m2 : mrf H H2 := by rw [← hH2]; exact mrf_tr m1 fgh_mrf
      have b18 : H2 60 18 = nI (i + 2) := by rw [← hH2]; exact fgh_18
      have b24 : H2 60 24 = nI r := by rw [← hH2]; exact fgh_24
      have o2 : ∀ g, g ≠ 18 → g ≠ 24 → H2 60 g = H 60 g := fun g g1 g2 => by rw [← hH2, fgh_o g1 g2, o1 g g1]
      have o2a : H2 72 = H 72 := by rw [← hH2, fgh_a (by omega), ← hH1, zq_u_ne (by omega)]
      generalize hH3 : zq_u H2 72 (2 * P) (nI r) = H3
      have m3 : mrf H H3 := by rw [← hH3]; exact mrf_tr m2 mrf_72
      have t3 := txt_fr ht m3
      have c60 : H3 60 = H2 60 := by rw [← hH3, zq_u_ne (by omega)]
      have r4 : nI r - 1 = nI (r - 1) := by
        have := nI_pred (r - 1)
        rwa [show r - 1 + 1 = r by omega] at this
      have x1 : zq_xS (nI (2 * P)) 6 := zb_x (by omega) (by omega)
      have x2 : (nI (2 * P)).toNatClampNeg = 2 * P := zb_cl (by omega)
      have x3 : zq_xS (nI (2 * P + 1)) 6 := zb_x (by omega) (by omega)
      have x4 : (nI (2 * P + 1)).toNatClampNeg = 2 * P + 1 := zb_cl (by omega)
      have b20 : H2 60 20 = nI P := by rw [o2 _ (by omega) (by omega)]; exact h20
      have c24 : H3 60 24 = nI r := by rw [c60]; exact b24
      have d18 : H3 60 18 = nI (i + 2) := by rw [c60]; exact b18
      cases h8 : fgv f n (i + 2) (r - 1) with
      | none =>
        have nn : ∀ Q, zq_P (d + 1) 133 0 [.ref 60, .int (nI j), .int 0, .int (nI (r - 1)), .retAddr 0] [] (zq_SG N, H3, hl, zq_HR ca cb cs) Q = Q (some (.int 0)) (zq_SG N, H3, hl, zq_HR ca cb cs) := fun Q => k_M_figure_no (h := r - 1) (lo := 0) hj hn t3 d18 (by omega) (by omega) (by omega) (Or.inl h8)
        refine ⟨H3, m3, by rw [c60, o2 _ (by omega) (by omega)], by rw [c60, o2 _ (by omega) (by omega)], Or.inl ⟨i + 2, Or.inr ⟨r, rfl, Or.inr ⟨q2, h8, rfl⟩⟩, d18, fun Q => ?_⟩⟩
        simp only [zr134_0, zr134_1, zr134_4, zr134_5, zr134_8, zr134_9, zr134_12, zr134_15, zr134_16, zr134_17, zr134_18, zr134_19, zr134_22, zr134_23, zr134_24, zr134_27, zr134_28, zr134_29, zr134_30, zr134_32, zr134_35, zr134_38, zr134_39, zr134_40, zr134_41, zr134_44, zr134_45, zr134_46, zr134_49, zr134_50, zr134_51, zr134_54, zr134_55, zr134_56, zr134_57, zr134_58, zr134_59, zr134_62, zr134_63, zr134_64, zr134_67, zr134_70, zr134_71, zr134_72, zr134_73, zr134_76, zr134_77, zr134_78, zr134_81, zr134_82, zr134_83, zr134_84, zr134_85, zr134_88, zr134_89, zr134_90, zr134_91, zr134_94, zr134_95, zr134_96, zr134_99, zr134_100, zs_m0 N, zs_m1 N, zs_m2 N, zh_m0 ca cb cs, zq_kill_int, zq_kill_ref, zq_kill_ret, zq_kill_null, zq_kill_long, zq_rf_some, zq_rf_none, true_and, and_true, true_implies, not_true_eq_false, not_false_eq_true, false_implies, Bool.true_eq_false, Bool.false_eq_true, nI_1, zb_i0, zb_i1, zb_i2, Option.toList_some, Option.toList_none, List.cons_append, List.nil_append, true_or, or_true, implies_true, zb_it, zb_if, zb_10, zb_00, zb_n5, zb_n2, zb_m1, zb_m3, zb_m9, or_true, true_or, or_false, false_or, h20, q3, h21, h18, hH1, ok7, b20, b24, zb_m2, x1, x2, hH3, c24, r4, nn]
      | some t =>
        obtain ⟨t1', t2', -⟩ := fgv_some (by omega) h8
        have ok8 : ∀ Q, zq_P (d + 1) 133 0 [.ref 60, .int (nI j), .int 0, .int (nI (r - 1)), .retAddr 0] [] (zq_SG N, H3, hl, zq_HR ca cb cs) Q = Q (some (.int 1)) (zq_SG N, fgh H3 t (i + 2), hl, zq_HR ca cb cs) := fun Q => k_M_figure_ok (h := r - 1) (lo := 0) hj hn t3 d18 (by omega) (by omega) h8 (by omega)
        generalize hH4 : fgh H3 t (i + 2) = H4 at ok8
        have m4 : mrf H H4 := by rw [← hH4]; exact mrf_tr m3 fgh_mrf
        have e18 : H4 60 18 = nI (i + 3) := by rw [← hH4]; exact fgh_18
        have e24 : H4 60 24 = nI t := by rw [← hH4]; exact fgh_24
        have o4 : ∀ g, g ≠ 18 → g ≠ 24 → H4 60 g = H 60 g := fun g g1 g2 => by rw [← hH4, fgh_o g1 g2, c60, o2 g g1 g2]
        have e20 : H4 60 20 = nI P := by rw [o4 _ (by omega) (by omega)]; exact h20
        have e72 : H4 72 = H3 72 := by rw [← hH4, fgh_a (by omega)]
        generalize hH5 : zq_u H4 72 (2 * P + 1) (nI t) = H5
        have f60 : H5 60 = H4 60 := by rw [← hH5, zq_u_ne (by omega)]
        have f20 : H5 60 20 = nI P := by rw [f60]; exact e20
        refine ⟨zq_u H5 60 20 (nI (P + 1)), mrf_tr m4 (mrf_tr (by rw [← hH5]; exact mrf_72) (mrf_60 (by omega))), by rw [zq_u_kn (by omega), f60, o4 _ (by omega) (by omega)], by rw [zq_u_kn (by omega), f60, o4 _ (by omega) (by omega)], Or.inr ⟨r, t, rfl, q2, h8, by rw [zq_u_kn (by omega), f60]; exact e18, ⟨zq_u_eq, fun k hk => ?_⟩, fun Q => ?_⟩⟩
        · dsimp only at hk ⊢
          rw [zq_u_ne (by omega), ← hH5]
          by_cases ek : k = P
          · subst ek
            rw [zq_u_kn (by omega), zq_u_eq, e72, ← hH3, zq_u_eq, upn_eq, upn_eq]
            exact ⟨rfl, rfl⟩
          · rw [zq_u_kn (by omega), zq_u_kn (by omega), e72, ← hH3, zq_u_kn (by omega), zq_u_kn (by omega), o2a, upn_ne ek, upn_ne ek]
            exact hp.2 k (by show k < P; omega)
        · simp only [zr134_0, zr134_1, zr134_4, zr134_5, zr134_8, zr134_9, zr134_12, zr134_15, zr134_16, zr134_17, zr134_18, zr134_19, zr134_22, zr134_23, zr134_24, zr134_27, zr134_28, zr134_29, zr134_30, zr134_32, zr134_35, zr134_38, zr134_39, zr134_40, zr134_41, zr134_44, zr134_45, zr134_46, zr134_49, zr134_50, zr134_51, zr134_54, zr134_55, zr134_56, zr134_57, zr134_58, zr134_59, zr134_62, zr134_63, zr134_64, zr134_67, zr134_70, zr134_71, zr134_72, zr134_73, zr134_76, zr134_77, zr134_78, zr134_81, zr134_82, zr134_83, zr134_84, zr134_85, zr134_88, zr134_89, zr134_90, zr134_91, zr134_94, zr134_95, zr134_96, zr134_99, zr134_100, zs_m0 N, zs_m1 N, zs_m2 N, zh_m0 ca cb cs, zq_kill_int, zq_kill_ref, zq_kill_ret, zq_kill_null, zq_kill_long, zq_rf_some, zq_rf_none, true_and, and_true, true_implies, not_true_eq_false, not_false_eq_true, false_implies, Bool.true_eq_false, Bool.false_eq_true, nI_1, zb_i0, zb_i1, zb_i2, Option.toList_some, Option.toList_none, List.cons_append, List.nil_append, true_or, or_true, implies_true, zb_it, zb_if, zb_10, zb_00, zb_n5, zb_n2, zb_m1, zb_m3, zb_m9, or_true, true_or, or_false, false_or, h20, q3, h21, h18, hH1, ok7, b20, b24, zb_m2, x1, x2, hH3, c24, r4, ok8, e20, e24, x3, x4, hH5, f20]
theorem k_M_readsWay (hj : j < 4) (hn : n ≤ 60) (ht : txt H f n j) (h18 : H 60 18 = nI i) (hi : i < n) (hP : P ≤ 3) (hW : W < 7) (hp : MW H (W, kd, tb, nd)) (h20 : H 60 20 = nI P) :
    ∃ H', mrf H H' ∧ H' 60 19 = H 60 19 ∧ H' 60 20 = H 60 20 ∧ H' 72 = H 72 ∧ ((∃ q, (kb (f i) = none ∧ q = i ∨ (∃ k, kb (f i) = some k ∧ (fgv f n (i + 1) 9 = none ∧ q = i + 1 ∨ ∃ t, fgv f n (i + 1) 9 = some t ∧ fgv f n (i + 2) (2 ^ P - 1) = none ∧ q = i + 2))) ∧ H' 60 18 = nI q ∧ ∀ Q, zq_P (d + 2) 135 0 [.ref 60, .int (nI j), .retAddr 0, .retAddr 0] [] (zq_SG N, H, hl, zq_HR ca cb cs) Q = Q (some (.int 0)) (zq_SG N, H', hl, zq_HR ca cb cs)) ∨
      ∃ k t u, kb (f i) = some k ∧ fgv f n (i + 1) 9 = some t ∧ fgv f n (i + 2) (2 ^ P - 1) = some u ∧ H' 60 18 = nI (i + 3) ∧ MW H' (W + 1, upn kd W k, upn tb W t, upn nd W u) ∧ ∀ Q, zq_P (d + 2) 135 0 [.ref 60, .int (nI j), .retAddr 0, .retAddr 0] [] (zq_SG N, H, hl, zq_HR ca cb cs) Q = Q (some (.int 1)) (zq_SG N, H', hl, zq_HR ca cb cs)) := by
  have h8 := zb_p8 P hP
  have hr := fun Q => k_M_here (N := N) (ca := ca) (cb := cb) (cs := cs) (d := d + 1) (hl := hl) (Q := Q) hj hn ht h18 (show i ≤ n by omega)
  have eb : her f n i = f i := if_pos hi
  have h21 : H 60 21 = nI W := hp.1
  have q7 : (nI W = 7) = False := by rw [show (7 : Int32) = nI 7 from rfl, zb_eq (by omega) (by omega)]; exact eq_false (by omega)
  have q9 : (mmi none = -9) = True := eq_true rfl
  cases hk : kb (f i) with
  | none =>
    refine ⟨H, mrf_rfl H, rfl, rfl, rfl, Or.inl ⟨i, Or.inl ⟨rfl, rfl⟩, h18, fun Q => ?_⟩⟩
    simp only [zr135_0, zr135_1, zr135_2, zr135_5, zr135_8, zr135_9, zr135_10, zr135_12, zr135_15, zr135_16, zr135_19, zr135_21, zr135_24, zr135_25, zr135_26, zr135_27, zr135_28, zr135_31, zr135_32, zr135_33, zr135_34, zr135_37, zr135_38, zr135_39, zr135_40, zr135_41, zr135_42, zr135_45, zr135_46, zr135_47, zr135_50, zr135_51, zr135_52, zr135_53, zr135_55, zr135_58, zr135_61, zr135_62, zr135_63, zr135_64, zr135_67, zr135_68, zr135_69, zr135_70, zr135_71, zr135_74, zr135_75, zr135_76, zr135_77, zr135_78, zr135_79, zr135_80, zr135_83, zr135_84, zr135_85, zr135_86, zr135_89, zr135_92, zr135_93, zr135_94, zr135_95, zr135_98, zr135_99, zr135_100, zr135_101, zr135_102, zr135_105, zr135_106, zr135_107, zr135_108, zr135_111, zr135_112, zr135_113, zr135_116, zr135_117, zs_m0 N, zs_m1 N, zs_m2 N, zh_m0 ca cb cs, zq_kill_int, zq_kill_ref, zq_kill_ret, zq_kill_null, zq_kill_long, zq_rf_some, zq_rf_none, true_and, and_true, true_implies, not_true_eq_false, not_false_eq_true, false_implies, Bool.true_eq_false, Bool.false_eq_true, nI_1, zb_i0, zb_i1, zb_i2, Option.toList_some, Option.toList_none, List.cons_append, List.nil_append, true_or, or_true, implies_true, zb_it, zb_if, zb_10, zb_00, zb_n5, zb_n2, zb_m1, zb_m3, zb_m9, or_true, true_or, or_false, false_or, hr, eb, k_M_kindBy, hk, q9]
  | some k =>
    have k5 := kb_le hk
    have k9 := nI_n9 (a := k) (by omega)
    have x1 : zq_xS (nI (3 * W)) 21 := zb_x (by omega) (by omega)
    have x2 : (nI (3 * W)).toNatClampNeg = 3 * W := zb_cl (by omega)
    have x3 : zq_xS (nI (3 * W + 1)) 21 := zb_x (by omega) (by omega)
    have x4 : (nI (3 * W + 1)).toNatClampNeg = 3 * W + 1 := zb_cl (by omega)
    have x5 : zq_xS (nI (3 * W + 2)) 21 := zb_x (by omega) (by omega)
    have x6 : (nI (3 * W + 2)).toNatClampNeg = 3 * W + 2 := zb_cl (by omega)
    have g18 : zq_u H 73 (3 * W) (nI k) 60 18 = nI i := by rw [zq_u_ne (by omega)]; exact h18
    generalize hH1 : zq_u (zq_u H 73 (3 * W) (nI k)) 60 18 (nI (i + 1)) = H1
    have m1 : mrf H H1 := by rw [← hH1]; exact mrf_tr mrf_73 (mrf_60 (by omega))
    have t1 := txt_fr ht m1
    have a18 : H1 60 18 = nI (i + 1) := by rw [← hH1, zq_u_eq]
    have o1 : ∀ g, g ≠ 18 → H1 60 g = H 60 g := fun g hg => by rw [← hH1, zq_u_kn hg, zq_u_ne (by omega)]
    have o72 : H1 72 = H 72 := by rw [← hH1, zq_u_ne (by omega), zq_u_ne (by omega)]
    have o73 : ∀ l, H1 73 l = if l = 3 * W then nI k else H 73 l := fun l => by
      rw [← hH1, zq_u_ne (by omega)]
      by_cases e : l = 3 * W
      · subst e; rw [zq_u_eq, if_pos rfl]
      · rw [zq_u_kn e, if_neg e]
    cases h9' : fgv f n (i + 1) 9 with
    | none =>
      have nn : ∀ Q, zq_P (d + 1) 133 0 [.ref 60, .int (nI j), .int 0, .int 9, .retAddr 0] [] (zq_SG N, H1, hl, zq_HR ca cb cs) Q = Q (some (.int 0)) (zq_SG N, H1, hl, zq_HR ca cb cs) := fun Q => k_M_figure_no (h := 9) (lo := 0) hj hn t1 a18 (by omega) (by omega) (by omega) (Or.inl h9')
      refine ⟨H1, m1, o1 _ (by omega), o1 _ (by omega), o72, Or.inl ⟨i + 1, Or.inr ⟨k, rfl, Or.inl ⟨rfl, rfl⟩⟩, a18, fun Q => ?_⟩⟩
      simp only [zr135_0, zr135_1, zr135_2, zr135_5, zr135_8, zr135_9, zr135_10, zr135_12, zr135_15, zr135_16, zr135_19, zr135_21, zr135_24, zr135_25, zr135_26, zr135_27, zr135_28, zr135_31, zr135_32, zr135_33, zr135_34, zr135_37, zr135_38, zr135_39, zr135_40, zr135_41, zr135_42, zr135_45, zr135_46, zr135_47, zr135_50, zr135_51, zr135_52, zr135_53, zr135_55, zr135_58, zr135_61, zr135_62, zr135_63, zr135_64, zr135_67, zr135_68, zr135_69, zr135_70, zr135_71, zr135_74, zr135_75, zr135_76, zr135_77, zr135_78, zr135_79, zr135_80, zr135_83, zr135_84, zr135_85, zr135_86, zr135_89, zr135_92, zr135_93, zr135_94, zr135_95, zr135_98, zr135_99, zr135_100, zr135_101, zr135_102, zr135_105, zr135_106, zr135_107, zr135_108, zr135_111, zr135_112, zr135_113, zr135_116, zr135_117, zs_m0 N, zs_m1 N, zs_m2 N, zh_m0 ca cb cs, zq_kill_int, zq_kill_ref, zq_kill_ret, zq_kill_null, zq_kill_long, zq_rf_some, zq_rf_none, true_and, and_true, true_implies, not_true_eq_false, not_false_eq_true, false_implies, Bool.true_eq_false, Bool.false_eq_true, nI_1, zb_i0, zb_i1, zb_i2, Option.toList_some, Option.toList_none, List.cons_append, List.nil_append, true_or, or_true, implies_true, zb_it, zb_if, zb_10, zb_00, zb_n5, zb_n2, zb_m1, zb_m3, zb_m9, or_true, true_or, or_false, false_or, hr, eb, k_M_kindBy, hk, mmi_w, k9, h21, q7, zb_m3', x1, x2, g18, hH1, nn]
    | some t =>
      obtain ⟨t1', t2', -⟩ := fgv_some (by omega) h9'
      have ok9 : ∀ Q, zq_P (d + 1) 133 0 [.ref 60, .int (nI j), .int 0, .int 9, .retAddr 0] [] (zq_SG N, H1, hl, zq_HR ca cb cs) Q = Q (some (.int 1)) (zq_SG N, fgh H1 t (i + 1), hl, zq_HR ca cb cs) := fun Q => k_M_figure_ok (h := 9) (lo := 0) hj hn t1 a18 (by omega) (by omega) h9' (by omega)
      generalize hH2 : fgh H1 t (i + 1) = H2 at ok9
      have m2 : mrf H H2 := by rw [← hH2]; exact mrf_tr m1 fgh_mrf
      have b18 : H2 60 18 = nI (i + 2) := by rw [← hH2]; exact fgh_18
      have b24 : H2 60 24 = nI t := by rw [← hH2]; exact fgh_24
      have o2 : ∀ g, g ≠ 18 → g ≠ 24 → H2 60 g = H 60 g := fun g g1 g2 => by rw [← hH2, fgh_o g1 g2, o1 g g1]
      have o2a : ∀ a, a ≠ 60 → H2 a = H1 a := fun a ha => by rw [← hH2, fgh_a ha]
      generalize hH3 : zq_u H2 73 (3 * W + 1) (nI t) = H3
      have m3 : mrf H H3 := by rw [← hH3]; exact mrf_tr m2 mrf_73
      have t3 := txt_fr ht m3
      have c60 : H3 60 = H2 60 := by rw [← hH3, zq_u_ne (by omega)]
      have c20 : H3 60 20 = nI P := by rw [c60, o2 _ (by omega) (by omega)]; exact h20
      have d18 : H3 60 18 = nI (i + 2) := by rw [c60]; exact b18
      have c72 : H3 72 = H 72 := by rw [← hH3, zq_u_ne (by omega), o2a _ (by omega), o72]
      cases hq : fgv f n (i + 2) (2 ^ P - 1) with
      | none =>
        have nn : ∀ Q, zq_P (d + 1) 133 0 [.ref 60, .int (nI j), .int 0, .int (nI (2 ^ P - 1)), .retAddr 0] [] (zq_SG N, H3, hl, zq_HR ca cb cs) Q = Q (some (.int 0)) (zq_SG N, H3, hl, zq_HR ca cb cs) := fun Q => k_M_figure_no (h := 2 ^ P - 1) (lo := 0) hj hn t3 d18 (by omega) (by omega) (by omega) (Or.inl hq)
        refine ⟨H3, m3, by rw [c60, o2 _ (by omega) (by omega)], by rw [c60, o2 _ (by omega) (by omega)], c72, Or.inl ⟨i + 2, Or.inr ⟨k, rfl, Or.inr ⟨t, rfl, rfl, rfl⟩⟩, d18, fun Q => ?_⟩⟩
        simp only [zr135_0, zr135_1, zr135_2, zr135_5, zr135_8, zr135_9, zr135_10, zr135_12, zr135_15, zr135_16, zr135_19, zr135_21, zr135_24, zr135_25, zr135_26, zr135_27, zr135_28, zr135_31, zr135_32, zr135_33, zr135_34, zr135_37, zr135_38, zr135_39, zr135_40, zr135_41, zr135_42, zr135_45, zr135_46, zr135_47, zr135_50, zr135_51, zr135_52, zr135_53, zr135_55, zr135_58, zr135_61, zr135_62, zr135_63, zr135_64, zr135_67, zr135_68, zr135_69, zr135_70, zr135_71, zr135_74, zr135_75, zr135_76, zr135_77, zr135_78, zr135_79, zr135_80, zr135_83, zr135_84, zr135_85, zr135_86, zr135_89, zr135_92, zr135_93, zr135_94, zr135_95, zr135_98, zr135_99, zr135_100, zr135_101, zr135_102, zr135_105, zr135_106, zr135_107, zr135_108, zr135_111, zr135_112, zr135_113, zr135_116, zr135_117, zs_m0 N, zs_m1 N, zs_m2 N, zh_m0 ca cb cs, zq_kill_int, zq_kill_ref, zq_kill_ret, zq_kill_null, zq_kill_long, zq_rf_some, zq_rf_none, true_and, and_true, true_implies, not_true_eq_false, not_false_eq_true, false_implies, Bool.true_eq_false, Bool.false_eq_true, nI_1, zb_i0, zb_i1, zb_i2, Option.toList_some, Option.toList_none, List.cons_append, List.nil_append, true_or, or_true, implies_true, zb_it, zb_if, zb_10, zb_00, zb_n5, zb_n2, zb_m1, zb_m3, zb_m9, or_true, true_or, or_false, false_or, hr, eb, k_M_kindBy, hk, mmi_w, k9, h21, q7, zb_m3', x1, x2, g18, hH1, ok9, b24, x3, x4, hH3, c20, zb_ev1 P hP, nn]
      | some u =>
        obtain ⟨u1', u2', -⟩ := fgv_some (by omega) hq
        have ok8 : ∀ Q, zq_P (d + 1) 133 0 [.ref 60, .int (nI j), .int 0, .int (nI (2 ^ P - 1)), .retAddr 0] [] (zq_SG N, H3, hl, zq_HR ca cb cs) Q = Q (some (.int 1)) (zq_SG N, fgh H3 u (i + 2), hl, zq_HR ca cb cs) := fun Q => k_M_figure_ok (h := 2 ^ P - 1) (lo := 0) hj hn t3 d18 (by omega) (by omega) hq (by omega)
        generalize hH4 : fgh H3 u (i + 2) = H4 at ok8
        have m4 : mrf H H4 := by rw [← hH4]; exact mrf_tr m3 fgh_mrf
        have e18 : H4 60 18 = nI (i + 3) := by rw [← hH4]; exact fgh_18
        have e24 : H4 60 24 = nI u := by rw [← hH4]; exact fgh_24
        have o4 : ∀ g, g ≠ 18 → g ≠ 24 → H4 60 g = H 60 g := fun g g1 g2 => by rw [← hH4, fgh_o g1 g2, c60, o2 g g1 g2]
        have o4a : ∀ a, a ≠ 60 → H4 a = H3 a := fun a ha => by rw [← hH4, fgh_a ha]
        generalize hH5 : zq_u H4 73 (3 * W + 2) (nI u) = H5
        have f60 : H5 60 = H4 60 := by rw [← hH5, zq_u_ne (by omega)]
        have f21 : H5 60 21 = nI W := by rw [f60, o4 _ (by omega) (by omega)]; exact h21
        refine ⟨zq_u H5 60 21 (nI (W + 1)), mrf_tr m4 (mrf_tr (by rw [← hH5]; exact mrf_73) (mrf_60 (by omega))), by rw [zq_u_kn (by omega), f60, o4 _ (by omega) (by omega)], by rw [zq_u_kn (by omega), f60, o4 _ (by omega) (by omega)], by rw [zq_u_ne (by omega), ← hH5, zq_u_ne (by omega), o4a _ (by omega), c72], Or.inr ⟨k, t, u, rfl, rfl, rfl, by rw [zq_u_kn (by omega), f60]; exact e18, ⟨zq_u_eq, fun w hw => ?_⟩, fun Q => ?_⟩⟩
        · dsimp only at hw ⊢
          rw [zq_u_ne (by omega), ← hH5]
          by_cases ew : w = W
          · subst ew
            rw [zq_u_kn (by omega), zq_u_kn (by omega), zq_u_eq, o4a 73 (by omega), ← hH3, zq_u_kn (by omega), zq_u_eq, o2a 73 (by omega), o73, if_pos rfl, upn_eq, upn_eq, upn_eq]
            exact ⟨rfl, rfl, rfl⟩
          · rw [zq_u_kn (by omega), zq_u_kn (by omega), zq_u_kn (by omega), o4a 73 (by omega), ← hH3, zq_u_kn (by omega), zq_u_kn (by omega), zq_u_kn (by omega), o2a 73 (by omega), o73, o73, o73, if_neg (by omega), if_neg (by omega), if_neg (by omega), upn_ne ew, upn_ne ew, upn_ne ew]
            exact hp.2 w (by show w < W; omega)
        · simp only [zr135_0, zr135_1, zr135_2, zr135_5, zr135_8, zr135_9, zr135_10, zr135_12, zr135_15, zr135_16, zr135_19, zr135_21, zr135_24, zr135_25, zr135_26, zr135_27, zr135_28, zr135_31, zr135_32, zr135_33, zr135_34, zr135_37, zr135_38, zr135_39, zr135_40, zr135_41, zr135_42, zr135_45, zr135_46, zr135_47, zr135_50, zr135_51, zr135_52, zr135_53, zr135_55, zr135_58, zr135_61, zr135_62, zr135_63, zr135_64, zr135_67, zr135_68, zr135_69, zr135_70, zr135_71, zr135_74, zr135_75, zr135_76, zr135_77, zr135_78, zr135_79, zr135_80, zr135_83, zr135_84, zr135_85, zr135_86, zr135_89, zr135_92, zr135_93, zr135_94, zr135_95, zr135_98, zr135_99, zr135_100, zr135_101, zr135_102, zr135_105, zr135_106, zr135_107, zr135_108, zr135_111, zr135_112, zr135_113, zr135_116, zr135_117, zs_m0 N, zs_m1 N, zs_m2 N, zh_m0 ca cb cs, zq_kill_int, zq_kill_ref, zq_kill_ret, zq_kill_null, zq_kill_long, zq_rf_some, zq_rf_none, true_and, and_true, true_implies, not_true_eq_false, not_false_eq_true, false_implies, Bool.true_eq_false, Bool.false_eq_true, nI_1, zb_i0, zb_i1, zb_i2, Option.toList_some, Option.toList_none, List.cons_append, List.nil_append, true_or, or_true, implies_true, zb_it, zb_if, zb_10, zb_00, zb_n5, zb_n2, zb_m1, zb_m3, zb_m9, or_true, true_or, or_false, false_or, hr, eb, k_M_kindBy, hk, mmi_w, k9, h21, q7, zb_m3', x1, x2, g18, hH1, ok9, b24, x3, x4, hH3, c20, zb_ev1 P hP, ok8, e24, zb_p2, x5, x6, hH5, f21]
end Z64
