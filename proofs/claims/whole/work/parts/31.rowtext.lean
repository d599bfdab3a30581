/-! row, text, lay, put, tear -/
theorem sm_st_upd {hi hi2 : zq_I} {a ms mp M T j : Nat} (h : sm_st hi a ms mp M T) (hnew : (hi2 (a + 2 * j) 1 = (-1) ∧ hi2 ms j = (-9)) ∨ ∃ n, n ≤ T ∧ hi2 (a + 2 * j) 1 = nI n ∧ hi2 ms j = nI n ∧ ∀ k, k < n → hi2 (a + 1 + 2 * j) k = hi2 mp (T * j + k)) (o1 : ∀ r, r < M → r ≠ j → hi2 (a + 2 * r) 1 = hi (a + 2 * r) 1 ∧ hi2 ms r = hi ms r ∧ ∀ k, k < T → hi2 (a + 1 + 2 * r) k = hi (a + 1 + 2 * r) k ∧ hi2 mp (T * r + k) = hi mp (T * r + k)) : sm_st hi2 a ms mp M T := by
  intro r hr
  by_cases e : r = j
  · subst e; exact hnew
  · obtain ⟨q1, q2, q3⟩ := o1 r hr e
    rcases h r hr with ⟨e1, e2⟩ | ⟨n, hn, e1, e2, e3⟩
    · exact Or.inl ⟨q1.trans e1, q2.trans e2⟩
    · exact Or.inr ⟨n, hn, q1.trans e1, q2.trans e2, fun k hk => by rw [(q3 k (by omega)).1, (q3 k (by omega)).2]; exact e3 k hk⟩
section Z31
variable {N : Nat} {x z v : Int32}
theorem zb_le {z : Int32} {M : Nat} (hM : M ≤ 1000) (h1 : ¬ z < 0) (h2 : ¬ nI M < z) : ∃ n, n ≤ M ∧ z = nI n := by
  obtain ⟨n, hn, rfl⟩ := nI_of h1
  refine ⟨n, ?_, rfl⟩
  rw [zb_lt (by omega) (by omega)] at h2
  omega
theorem k_M_row_loop {d j ca cb cs : Nat} {hi : zq_I} {hl : zq_J} {Q : Option Value → zq_G → Prop} {w : Value} (hj : j < 6) : zq_P (d + 1) 110 34 [.ref 60, .int (nI j), w, .int (nI 0)] [] (zq_SG N, zq_w hi 63 (zf (hi 63) (40 * j) 0 0), hl, zq_HR ca cb cs) Q = zq_P (d + 1) 110 34 [.ref 60, .int (nI j), zq_kill w, .int (nI 40)] [] (zq_SG N, zq_w hi 63 (zf (hi 63) (40 * j) 0 40), hl, zq_HR ca cb cs) Q := by
  have step : ∀ k, k < 40 → ∀ w, zq_P (d + 1) 110 34 [.ref 60, .int (nI j), w, .int (nI k)] [] (zq_SG N, zq_w hi 63 (zf (hi 63) (40 * j) 0 k), hl, zq_HR ca cb cs) Q = zq_P (d + 1) 110 34 [.ref 60, .int (nI j), zq_kill w, .int (nI (k + 1))] [] (zq_SG N, zq_w hi 63 (zf (hi 63) (40 * j) 0 (k + 1)), hl, zq_HR ca cb cs) Q := by
    intro k hk w
    have x3 : (nI k < 40) = True := eq_true ((nI_ltI (b := 40) (by omega) (by omega)).mpr hk)
    have x1 : zq_xS (nI (40 * j + k)) 240 := zb_x (by omega) (by omega)
    have x2 : (nI (40 * j + k)).toNatClampNeg = 40 * j + k := zb_cl (by omega)
    rw [zr110_34]
    simp only [zr110_0, zr110_1, zr110_4, zr110_7, zr110_8, zr110_10, zr110_13, zr110_14, zr110_15, zr110_16, zr110_19, zr110_20, zr110_21, zr110_24, zr110_25, zr110_26, zr110_29, zr110_30, zr110_31, zr110_32, zr110_33, zr110_35, zr110_37, zr110_40, zr110_41, zr110_42, zr110_43, zr110_44, zr110_47, zr110_50, zr110_53, zr110_54, zr114_0, zr114_1, zr114_4, zr114_6, zr114_7, zr114_8, zr114_9, zr114_10, zr114_11, zr114_12, zs_m0 N, zs_m1 N, zs_m2 N, zh_m0 ca cb cs, zq_kill_int, zq_kill_ref, zq_kill_ret, zq_kill_null, zq_kill_long, zq_rf_some, zq_rf_none, true_and, and_true, true_implies, not_true_eq_false, not_false_eq_true, false_implies, Bool.true_eq_false, Bool.false_eq_true, nI_1, zb_i0, zb_i1, zb_i2, Option.toList_some, Option.toList_none, List.cons_append, List.nil_append, true_or, or_true, implies_true, zb_it, zb_if, zb_10, zb_00, zb_n5, zb_n2, zb_m1, zb_m3, zb_m9, or_true, true_or, or_false, false_or, x1, x2, x3, zb_m40, nI_add, zq_w_u, zf_s]
  have h2 := zq_loop (n := 40) (f := fun k => zq_P (d + 1) 110 34 [.ref 60, .int (nI j), zq_kill w, .int (nI k)] [] (zq_SG N, zq_w hi 63 (zf (hi 63) (40 * j) 0 k), hl, zq_HR ca cb cs) Q) fun k hk => by
    have := step k hk (zq_kill w)
    rw [zq_kill_kill] at this
    exact this
  rw [step 0 (by omega) w]
  have h1 := step 0 (by omega) (zq_kill w)
  rw [zq_kill_kill] at h1
  rw [← h1]
  exact h2
theorem p_row : zq_pair N 10 110 [.ref 0, .int x, .int z] [.ref 60, .int x, .int z, .retAddr 0] := by
  intro hi hl ca cb cs W P D h
  have hs := zq_Ss_rows (N := N) (ca := ca) (cb := cb) (cs := cs)
  rcases zb_ix x 6 (by omega) with hx | ⟨j, hj, rfl⟩
  · refine ⟨.int (-1), hi, hl, ca, cb, cs, hi, hl, W, P, D, fun Q => ?_, fun Q => ?_, h⟩
    · simp only [zr10_0, zr10_1, zr10_2, zr10_5, zr10_6, zr10_9, zr10_10, zr10_11, zr10_11n, zr10_14, zr12_0, zr12_0n, zr12_1, zr12_1n, zr12_4, zr12_5, zr12_5n, zr12_6, zr12_9, zr12_10, zr12_13, zr12_14, zr12_15, zr12_16, zr12_19, zr12_20, zr12_21, zr12_24, zr12_25, zr12_25n, zr12_26, zr12_27, zr12_28, zr12_31, zr12_32, zs_x0 N, zh_x0 ca cb cs, zq_kill_int, zq_kill_ref, zq_kill_ret, zq_kill_null, zq_kill_long, zq_rf_some, zq_rf_none, true_and, and_true, true_implies, not_true_eq_false, not_false_eq_true, false_implies, Bool.true_eq_false, Bool.false_eq_true, nI_1, zb_i0, zb_i1, zb_i2, Option.toList_some, Option.toList_none, List.cons_append, List.nil_append, true_or, or_true, implies_true, zb_it, zb_if, zb_10, zb_00, zb_n5, zb_n2, zb_m1, zb_m3, zb_m9, or_true, true_or, or_false, false_or, k_EF_stripAt_bad hs hx]
    · simp only [zr110_0, zr110_1, zr110_4, zr110_7, zr110_8, zr110_10, zr110_13, zr110_14, zr110_15, zr110_16, zr110_19, zr110_20, zr110_21, zr110_24, zr110_25, zr110_26, zr110_29, zr110_30, zr110_31, zr110_32, zr110_33, zr110_35, zr110_37, zr110_40, zr110_41, zr110_42, zr110_43, zr110_44, zr110_47, zr110_50, zr110_53, zr110_54, zr111_0, zr111_1, zr111_2, zr111_3, zr111_6, zs_m0 N, zs_m1 N, zs_m2 N, zh_m0 ca cb cs, zq_kill_int, zq_kill_ref, zq_kill_ret, zq_kill_null, zq_kill_long, zq_rf_some, zq_rf_none, true_and, and_true, true_implies, not_true_eq_false, not_false_eq_true, false_implies, Bool.true_eq_false, Bool.false_eq_true, nI_1, zb_i0, zb_i1, zb_i2, Option.toList_some, Option.toList_none, List.cons_append, List.nil_append, true_or, or_true, implies_true, zb_it, zb_if, zb_10, zb_00, zb_n5, zb_n2, zb_m1, zb_m3, zb_m9, or_true, true_or, or_false, false_or, k_M_in, zm_in_bad (M1 := 5) hx (by decide) (by omega)]
  · have hin := zm_in_ok (M1 := 5) hj (by decide) (by omega)
    have hsp := (hs.2 j hj).2
    unfold zq_Sp at hsp
    have h1 : zq_xS (nI j) 6 := zb_x (by omega) (by omega)
    have h2 : (nI j).toNatClampNeg = j := zb_cl (by omega)
    have e40 : (40 : Int32) = nI 40 := rfl
    by_cases z1 : nI 40 < z
    · refine ⟨.int (-1), hi, hl, ca, cb, cs, hi, hl, W, P, D, fun Q => ?_, fun Q => ?_, h⟩
      · simp only [zr10_0, zr10_1, zr10_2, zr10_5, zr10_6, zr10_9, zr10_10, zr10_11, zr10_11n, zr10_14, zr12_0, zr12_0n, zr12_1, zr12_1n, zr12_4, zr12_5, zr12_5n, zr12_6, zr12_9, zr12_10, zr12_13, zr12_14, zr12_15, zr12_16, zr12_19, zr12_20, zr12_21, zr12_24, zr12_25, zr12_25n, zr12_26, zr12_27, zr12_28, zr12_31, zr12_32, zs_x0 N, zh_x0 ca cb cs, hsp, zq_kill_int, zq_kill_ref, zq_kill_ret, zq_kill_null, zq_kill_long, zq_rf_some, zq_rf_none, true_and, and_true, true_implies, not_true_eq_false, not_false_eq_true, false_implies, Bool.true_eq_false, Bool.false_eq_true, nI_1, zb_i0, zb_i1, zb_i2, Option.toList_some, Option.toList_none, List.cons_append, List.nil_append, true_or, or_true, implies_true, zb_it, zb_if, zb_10, zb_00, zb_n5, zb_n2, zb_m1, zb_m3, zb_m9, or_true, true_or, or_false, false_or, k_EF_stripAt hs (show 6 ≤ 6 by omega) hj, z1]
      · simp only [zr110_0, zr110_1, zr110_4, zr110_7, zr110_8, zr110_10, zr110_13, zr110_14, zr110_15, zr110_16, zr110_19, zr110_20, zr110_21, zr110_24, zr110_25, zr110_26, zr110_29, zr110_30, zr110_31, zr110_32, zr110_33, zr110_35, zr110_37, zr110_40, zr110_41, zr110_42, zr110_43, zr110_44, zr110_47, zr110_50, zr110_53, zr110_54, zr111_0, zr111_1, zr111_2, zr111_3, zr111_6, zs_m0 N, zs_m1 N, zs_m2 N, zh_m0 ca cb cs, zq_kill_int, zq_kill_ref, zq_kill_ret, zq_kill_null, zq_kill_long, zq_rf_some, zq_rf_none, true_and, and_true, true_implies, not_true_eq_false, not_false_eq_true, false_implies, Bool.true_eq_false, Bool.false_eq_true, nI_1, zb_i0, zb_i1, zb_i2, Option.toList_some, Option.toList_none, List.cons_append, List.nil_append, true_or, or_true, implies_true, zb_it, zb_if, zb_10, zb_00, zb_n5, zb_n2, zb_m1, zb_m3, zb_m9, or_true, true_or, or_false, false_or, k_M_in, hin, e40, z1]
    · by_cases z2 : z < 0
      · refine ⟨.int (-3), cf hi 5, hl, ca, cb, cs, mf (cf hi 5) 5, hl, W, P, D, fun Q => ?_, fun Q => ?_, h.meet (by omega)⟩
        · simp only [zr10_0, zr10_1, zr10_2, zr10_5, zr10_6, zr10_9, zr10_10, zr10_11, zr10_11n, zr10_14, zr12_0, zr12_0n, zr12_1, zr12_1n, zr12_4, zr12_5, zr12_5n, zr12_6, zr12_9, zr12_10, zr12_13, zr12_14, zr12_15, zr12_16, zr12_19, zr12_20, zr12_21, zr12_24, zr12_25, zr12_25n, zr12_26, zr12_27, zr12_28, zr12_31, zr12_32, zs_x0 N, zh_x0 ca cb cs, hsp, zq_kill_int, zq_kill_ref, zq_kill_ret, zq_kill_null, zq_kill_long, zq_rf_some, zq_rf_none, true_and, and_true, true_implies, not_true_eq_false, not_false_eq_true, false_implies, Bool.true_eq_false, Bool.false_eq_true, nI_1, zb_i0, zb_i1, zb_i2, Option.toList_some, Option.toList_none, List.cons_append, List.nil_append, true_or, or_true, implies_true, zb_it, zb_if, zb_10, zb_00, zb_n5, zb_n2, zb_m1, zb_m3, zb_m9, or_true, true_or, or_false, false_or, k_EF_stripAt hs (show 6 ≤ 6 by omega) hj, z1, z2, k_EF_found5]
        · simp only [zr110_0, zr110_1, zr110_4, zr110_7, zr110_8, zr110_10, zr110_13, zr110_14, zr110_15, zr110_16, zr110_19, zr110_20, zr110_21, zr110_24, zr110_25, zr110_26, zr110_29, zr110_30, zr110_31, zr110_32, zr110_33, zr110_35, zr110_37, zr110_40, zr110_41, zr110_42, zr110_43, zr110_44, zr110_47, zr110_50, zr110_53, zr110_54, zr111_0, zr111_1, zr111_2, zr111_3, zr111_6, zs_m0 N, zs_m1 N, zs_m2 N, zh_m0 ca cb cs, zq_kill_int, zq_kill_ref, zq_kill_ret, zq_kill_null, zq_kill_long, zq_rf_some, zq_rf_none, true_and, and_true, true_implies, not_true_eq_false, not_false_eq_true, false_implies, Bool.true_eq_false, Bool.false_eq_true, nI_1, zb_i0, zb_i1, zb_i2, Option.toList_some, Option.toList_none, List.cons_append, List.nil_append, true_or, or_true, implies_true, zb_it, zb_if, zb_10, zb_00, zb_n5, zb_n2, zb_m1, zb_m3, zb_m9, or_true, true_or, or_false, false_or, k_M_in, hin, e40, z1, z2, k_M_meet5]
      · obtain ⟨n, hn, rfl⟩ := zb_le (by omega) z2 z1
        refine ⟨.int (nI n), zq_w (zq_u hi (2 + 2 * j) 1 (nI n)) (2 + 1 + 2 * j) (zf (hi (2 + 1 + 2 * j)) 0 0 40), hl, ca, cb, cs, zq_w (zq_u (zq_w (zq_u hi (2 + 2 * j) 1 (nI n)) (2 + 1 + 2 * j) (zf (hi (2 + 1 + 2 * j)) 0 0 40)) 62 j (nI n)) 63 (zf (hi 63) (40 * j) 0 40), hl, W, P, D, fun Q => ?_, fun Q => ?_, ?_⟩
        · have e1 : zq_u hi (2 + 2 * j) 1 (nI n) (2 + 1 + 2 * j) = hi (2 + 1 + 2 * j) := zq_u_ne (by omega)
          simp only [zr10_0, zr10_1, zr10_2, zr10_5, zr10_6, zr10_9, zr10_10, zr10_11, zr10_11n, zr10_14, zr12_0, zr12_0n, zr12_1, zr12_1n, zr12_4, zr12_5, zr12_5n, zr12_6, zr12_9, zr12_10, zr12_13, zr12_14, zr12_15, zr12_16, zr12_19, zr12_20, zr12_21, zr12_24, zr12_25, zr12_25n, zr12_26, zr12_27, zr12_28, zr12_31, zr12_32, zr9_0, zr9_1, zr9_4, zr9_5, zr9_6, zr9_9, zr9_10, zr9_13, zr9_14, zr9_15, zr9_16, zr9_19, zr9_20, zr9_23, zr9_24, zr9_27, zs_x0 N, zh_x0 ca cb cs, hsp, zq_kill_int, zq_kill_ref, zq_kill_ret, zq_kill_null, zq_kill_long, zq_rf_some, zq_rf_none, true_and, and_true, true_implies, not_true_eq_false, not_false_eq_true, false_implies, Bool.true_eq_false, Bool.false_eq_true, nI_1, zb_i0, zb_i1, zb_i2, Option.toList_some, Option.toList_none, List.cons_append, List.nil_append, true_or, or_true, implies_true, zb_it, zb_if, zb_10, zb_00, zb_n5, zb_n2, zb_m1, zb_m3, zb_m9, or_true, true_or, or_false, false_or, k_EF_stripAt hs (show 6 ≤ 6 by omega) hj, z1, z2, k_fill hsp.2.2.2.1 hsp.2.2.2.2.1 hsp.2.2.2.2.2 (by omega), e1]
        · generalize hh : zq_w (zq_u hi (2 + 2 * j) 1 (nI n)) (2 + 1 + 2 * j) (zf (hi (2 + 1 + 2 * j)) 0 0 40) = hi1
          have e1 : zq_u hi1 62 j (nI n) 63 = hi 63 := by rw [zq_u_ne (by omega), ← hh, zq_w_ne (by omega), zq_u_ne (by omega)]
          have lp := k_M_row_loop (N := N) (d := 57) (ca := ca) (cb := cb) (cs := cs) (hi := zq_u hi1 62 j (nI n)) (hl := hl) (Q := Q) (w := .int (nI n)) hj
          rw [zf_0, zq_w_self, e1] at lp
          simp only [zr110_0, zr110_1, zr110_4, zr110_7, zr110_8, zr110_10, zr110_13, zr110_14, zr110_15, zr110_16, zr110_19, zr110_20, zr110_21, zr110_24, zr110_25, zr110_26, zr110_29, zr110_30, zr110_31, zr110_32, zr110_33, zr110_35, zr110_37, zr110_40, zr110_41, zr110_42, zr110_43, zr110_44, zr110_47, zr110_50, zr110_53, zr110_54, zr111_0, zr111_1, zr111_2, zr111_3, zr111_6, zs_m0 N, zs_m1 N, zs_m2 N, zh_m0 ca cb cs, zq_kill_int, zq_kill_ref, zq_kill_ret, zq_kill_null, zq_kill_long, zq_rf_some, zq_rf_none, true_and, and_true, true_implies, not_true_eq_false, not_false_eq_true, false_implies, Bool.true_eq_false, Bool.false_eq_true, nI_1, zb_i0, zb_i1, zb_i2, Option.toList_some, Option.toList_none, List.cons_append, List.nil_append, true_or, or_true, implies_true, zb_it, zb_if, zb_10, zb_00, zb_n5, zb_n2, zb_m1, zb_m3, zb_m9, or_true, true_or, or_false, false_or, k_M_in, hin, e40, z1, z2, h1, h2]
          refine Eq.trans lp ?_
          have x3 : (nI 40 < 40) = False := eq_false (by decide)
          rw [zr110_34]
          simp only [zr110_0, zr110_1, zr110_4, zr110_7, zr110_8, zr110_10, zr110_13, zr110_14, zr110_15, zr110_16, zr110_19, zr110_20, zr110_21, zr110_24, zr110_25, zr110_26, zr110_29, zr110_30, zr110_31, zr110_32, zr110_33, zr110_35, zr110_37, zr110_40, zr110_41, zr110_42, zr110_43, zr110_44, zr110_47, zr110_50, zr110_53, zr110_54, zq_kill_int, zq_kill_ref, zq_kill_ret, zq_kill_null, zq_kill_long, zq_rf_some, zq_rf_none, true_and, and_true, true_implies, not_true_eq_false, not_false_eq_true, false_implies, Bool.true_eq_false, Bool.false_eq_true, nI_1, zb_i0, zb_i1, zb_i2, Option.toList_some, Option.toList_none, List.cons_append, List.nil_append, true_or, or_true, implies_true, x3]
        · have hcc := h.court
          refine h.fr2 h.2.1 (fun a ha => ?_) ?_ ?_ ?_ ?_ ?_
          · unfold keepc at ha
            rw [zq_w_ne (by omega), zq_u_ne (by omega), zq_w_ne (by omega), zq_u_ne (by omega)]
          · rw [zq_w_ne (x := 60) (by omega), zq_u_ne (x := 60) (by omega), zq_w_ne (x := 60) (by omega), zq_u_ne (x := 60) (by omega)]; exact ⟨rfl, rfl, rfl⟩
          · rw [zq_w_ne (x := 60) (by omega), zq_u_ne (x := 60) (by omega), zq_w_ne (x := 60) (by omega), zq_u_ne (x := 60) (by omega)]; exact ⟨rfl, rfl, rfl, rfl⟩
          · obtain ⟨t1, t2, t3, t4, t5⟩ := h.2.2.1
            refine ⟨?_, t2, t3, ?_, fun f hf => ?_⟩
            · rw [zq_w_ne (by omega), zq_u_ne (by omega), zq_w_ne (by omega), zq_u_ne (by omega), zq_w_ne (by omega), zq_u_ne (by omega), zq_w_ne (by omega), zq_u_ne (by omega)]; exact t1
            · rw [zq_w_ne (by omega), zq_u_ne (by omega), zq_w_ne (by omega), zq_u_ne (by omega), zq_w_ne (by omega), zq_u_ne (by omega), zq_w_ne (by omega), zq_u_ne (by omega)]; exact t4
            · rw [zq_w_ne (by omega), zq_u_ne (by omega), zq_w_ne (by omega), zq_u_ne (by omega), zq_w_ne (by omega), zq_u_ne (by omega), zq_w_ne (by omega), zq_u_ne (by omega)]; exact t5 f hf
          · refine sm_st_upd h.2.2.2.1 (j := j) (Or.inr ⟨n, hn, ?_, ?_, fun k hk => ?_⟩) fun r hr hne => ⟨?_, ?_, fun k hk => ⟨?_, ?_⟩⟩
            · rw [zq_w_ne (by omega), zq_u_ne (by omega), zq_w_ne (by omega), zq_u_eq]
            · rw [zq_w_ne (by omega), zq_u_eq]
            · rw [zq_w_eq, zq_w_ne (by omega), zq_u_ne (by omega), zq_w_eq]
              unfold zf
              rw [if_pos (by omega), if_pos (by omega)]
            · rw [zq_w_ne (by omega), zq_u_ne (by omega), zq_w_ne (by omega), zq_u_ne (by omega)]
            · rw [zq_w_ne (by omega), zq_u_kn hne, zq_w_ne (by omega), zq_u_ne (by omega)]
            · rw [zq_w_ne (by omega), zq_u_ne (by omega), zq_w_ne (by omega), zq_u_ne (by omega)]
            · rw [zq_w_eq]
              unfold zf
              rw [if_neg (by omega)]
          · exact sm_st_fr h.2.2.2.2.1 (fun r hr => ⟨by rw [zq_w_ne (by omega), zq_u_ne (by omega), zq_w_ne (by omega), zq_u_ne (by omega)], by rw [zq_w_ne (by omega), zq_u_ne (by omega), zq_w_ne (by omega), zq_u_ne (by omega)]⟩) (by rw [zq_w_ne (by omega), zq_u_ne (by omega), zq_w_ne (by omega), zq_u_ne (by omega)]) (by rw [zq_w_ne (by omega), zq_u_ne (by omega), zq_w_ne (by omega), zq_u_ne (by omega)])
theorem k_M_text_loop {d j ca cb cs : Nat} {hi : zq_I} {hl : zq_J} {Q : Option Value → zq_G → Prop} {w : Value} (hj : j < 4) : zq_P (d + 1) 123 34 [.ref 60, .int (nI j), w, .int (nI 0)] [] (zq_SG N, zq_w hi 66 (zf (hi 66) (60 * j) 32 0), hl, zq_HR ca cb cs) Q = zq_P (d + 1) 123 34 [.ref 60, .int (nI j), zq_kill w, .int (nI 60)] [] (zq_SG N, zq_w hi 66 (zf (hi 66) (60 * j) 32 60), hl, zq_HR ca cb cs) Q := by
  have step : ∀ k, k < 60 → ∀ w, zq_P (d + 1) 123 34 [.ref 60, .int (nI j), w, .int (nI k)] [] (zq_SG N, zq_w hi 66 (zf (hi 66) (60 * j) 32 k), hl, zq_HR ca cb cs) Q = zq_P (d + 1) 123 34 [.ref 60, .int (nI j), zq_kill w, .int (nI (k + 1))] [] (zq_SG N, zq_w hi 66 (zf (hi 66) (60 * j) 32 (k + 1)), hl, zq_HR ca cb cs) Q := by
    intro k hk w
    have x3 : (nI k < 60) = True := eq_true ((nI_ltI (b := 60) (by omega) (by omega)).mpr hk)
    have x1 : zq_xS (nI (60 * j + k)) 240 := zb_x (by omega) (by omega)
    have x2 : (nI (60 * j + k)).toNatClampNeg = 60 * j + k := zb_cl (by omega)
    rw [zr123_34]
    simp only [zr123_0, zr123_1, zr123_4, zr123_7, zr123_8, zr123_10, zr123_13, zr123_14, zr123_15, zr123_16, zr123_19, zr123_20, zr123_21, zr123_24, zr123_25, zr123_26, zr123_29, zr123_30, zr123_31, zr123_32, zr123_33, zr123_35, zr123_37, zr123_40, zr123_41, zr123_44, zr123_46, zr123_47, zr123_48, zr123_49, zr123_50, zr123_52, zr123_53, zr123_56, zr123_59, zr123_60, zs_m0 N, zs_m1 N, zs_m2 N, zh_m0 ca cb cs, zq_kill_int, zq_kill_ref, zq_kill_ret, zq_kill_null, zq_kill_long, zq_rf_some, zq_rf_none, true_and, and_true, true_implies, not_true_eq_false, not_false_eq_true, false_implies, Bool.true_eq_false, Bool.false_eq_true, nI_1, zb_i0, zb_i1, zb_i2, Option.toList_some, Option.toList_none, List.cons_append, List.nil_append, true_or, or_true, implies_true, zb_it, zb_if, zb_10, zb_00, zb_n5, zb_n2, zb_m1, zb_m3, zb_m9, or_true, true_or, or_false, false_or, x1, x2, x3, zb_m60, nI_add, zq_w_u, zf_s]
  have h2 := zq_loop (n := 60) (f := fun k => zq_P (d + 1) 123 34 [.ref 60, .int (nI j), zq_kill w, .int (nI k)] [] (zq_SG N, zq_w hi 66 (zf (hi 66) (60 * j) 32 k), hl, zq_HR ca cb cs) Q) fun k hk => by
    have := step k hk (zq_kill w)
    rw [zq_kill_kill] at this
    exact this
  rw [step 0 (by omega) w]
  have h1 := step 0 (by omega) (zq_kill w)
  rw [zq_kill_kill] at h1
  rw [← h1]
  exact h2
theorem p_text : zq_pair N 23 123 [.ref 0, .int x, .int z] [.ref 60, .int x, .int z, .retAddr 0] := by
  intro hi hl ca cb cs W P D h
  have hs := zq_Ss_texts (N := N) (ca := ca) (cb := cb) (cs := cs)
  rcases zb_ix x 4 (by omega) with hx | ⟨j, hj, rfl⟩
  · refine ⟨.int (-1), hi, hl, ca, cb, cs, hi, hl, W, P, D, fun Q => ?_, fun Q => ?_, h⟩
    · simp only [zr23_0, zr23_1, zr23_2, zr23_5, zr23_6, zr23_9, zr23_10, zr23_12, zr23_12n, zr23_15, zr12_0, zr12_0n, zr12_1, zr12_1n, zr12_4, zr12_5, zr12_5n, zr12_6, zr12_9, zr12_10, zr12_13, zr12_14, zr12_15, zr12_16, zr12_19, zr12_20, zr12_21, zr12_24, zr12_25, zr12_25n, zr12_26, zr12_27, zr12_28, zr12_31, zr12_32, zs_x0 N, zh_x0 ca cb cs, zq_kill_int, zq_kill_ref, zq_kill_ret, zq_kill_null, zq_kill_long, zq_rf_some, zq_rf_none, true_and, and_true, true_implies, not_true_eq_false, not_false_eq_true, false_implies, Bool.true_eq_false, Bool.false_eq_true, nI_1, zb_i0, zb_i1, zb_i2, Option.toList_some, Option.toList_none, List.cons_append, List.nil_append, true_or, or_true, implies_true, zb_it, zb_if, zb_10, zb_00, zb_n5, zb_n2, zb_m1, zb_m3, zb_m9, or_true, true_or, or_false, false_or, k_EF_stripAt_bad hs hx]
    · simp only [zr123_0, zr123_1, zr123_4, zr123_7, zr123_8, zr123_10, zr123_13, zr123_14, zr123_15, zr123_16, zr123_19, zr123_20, zr123_21, zr123_24, zr123_25, zr123_26, zr123_29, zr123_30, zr123_31, zr123_32, zr123_33, zr123_35, zr123_37, zr123_40, zr123_41, zr123_44, zr123_46, zr123_47, zr123_48, zr123_49, zr123_50, zr123_52, zr123_53, zr123_56, zr123_59, zr123_60, zr124_0, zr124_1, zr124_2, zr124_3, zr124_6, zs_m0 N, zs_m1 N, zs_m2 N, zh_m0 ca cb cs, zq_kill_int, zq_kill_ref, zq_kill_ret, zq_kill_null, zq_kill_long, zq_rf_some, zq_rf_none, true_and, and_true, true_implies, not_true_eq_false, not_false_eq_true, false_implies, Bool.true_eq_false, Bool.false_eq_true, nI_1, zb_i0, zb_i1, zb_i2, Option.toList_some, Option.toList_none, List.cons_append, List.nil_append, true_or, or_true, implies_true, zb_it, zb_if, zb_10, zb_00, zb_n5, zb_n2, zb_m1, zb_m3, zb_m9, or_true, true_or, or_false, false_or, k_M_in, zm_in_bad (M1 := 3) hx (by decide) (by omega)]
  · have hin := zm_in_ok (M1 := 3) hj (by decide) (by omega)
    have hsp := (hs.2 j hj).2
    unfold zq_Sp at hsp
    have h1 : zq_xS (nI j) 4 := zb_x (by omega) (by omega)
    have h2 : (nI j).toNatClampNeg = j := zb_cl (by omega)
    have e40 : (60 : Int32) = nI 60 := rfl
    by_cases z1 : nI 60 < z
    · refine ⟨.int (-1), hi, hl, ca, cb, cs, hi, hl, W, P, D, fun Q => ?_, fun Q => ?_, h⟩
      · simp only [zr23_0, zr23_1, zr23_2, zr23_5, zr23_6, zr23_9, zr23_10, zr23_12, zr23_12n, zr23_15, zr12_0, zr12_0n, zr12_1, zr12_1n, zr12_4, zr12_5, zr12_5n, zr12_6, zr12_9, zr12_10, zr12_13, zr12_14, zr12_15, zr12_16, zr12_19, zr12_20, zr12_21, zr12_24, zr12_25, zr12_25n, zr12_26, zr12_27, zr12_28, zr12_31, zr12_32, zs_x0 N, zh_x0 ca cb cs, hsp, zq_kill_int, zq_kill_ref, zq_kill_ret, zq_kill_null, zq_kill_long, zq_rf_some, zq_rf_none, true_and, and_true, true_implies, not_true_eq_false, not_false_eq_true, false_implies, Bool.true_eq_false, Bool.false_eq_true, nI_1, zb_i0, zb_i1, zb_i2, Option.toList_some, Option.toList_none, List.cons_append, List.nil_append, true_or, or_true, implies_true, zb_it, zb_if, zb_10, zb_00, zb_n5, zb_n2, zb_m1, zb_m3, zb_m9, or_true, true_or, or_false, false_or, k_EF_stripAt hs (show 4 ≤ 6 by omega) hj, z1]
      · simp only [zr123_0, zr123_1, zr123_4, zr123_7, zr123_8, zr123_10, zr123_13, zr123_14, zr123_15, zr123_16, zr123_19, zr123_20, zr123_21, zr123_24, zr123_25, zr123_26, zr123_29, zr123_30, zr123_31, zr123_32, zr123_33, zr123_35, zr123_37, zr123_40, zr123_41, zr123_44, zr123_46, zr123_47, zr123_48, zr123_49, zr123_50, zr123_52, zr123_53, zr123_56, zr123_59, zr123_60, zr124_0, zr124_1, zr124_2, zr124_3, zr124_6, zs_m0 N, zs_m1 N, zs_m2 N, zh_m0 ca cb cs, zq_kill_int, zq_kill_ref, zq_kill_ret, zq_kill_null, zq_kill_long, zq_rf_some, zq_rf_none, true_and, and_true, true_implies, not_true_eq_false, not_false_eq_true, false_implies, Bool.true_eq_false, Bool.false_eq_true, nI_1, zb_i0, zb_i1, zb_i2, Option.toList_some, Option.toList_none, List.cons_append, List.nil_append, true_or, or_true, implies_true, zb_it, zb_if, zb_10, zb_00, zb_n5, zb_n2, zb_m1, zb_m3, zb_m9, or_true, true_or, or_false, false_or, k_M_in, hin, e40, z1]
    · by_cases z2 : z < 0
      · refine ⟨.int (-3), cf hi 5, hl, ca, cb, cs, mf (cf hi 5) 5, hl, W, P, D, fun Q => ?_, fun Q => ?_, h.meet (by omega)⟩
        · simp only [zr23_0, zr23_1, zr23_2, zr23_5, zr23_6, zr23_9, zr23_10, zr23_12, zr23_12n, zr23_15, zr12_0, zr12_0n, zr12_1, zr12_1n, zr12_4, zr12_5, zr12_5n, zr12_6, zr12_9, zr12_10, zr12_13, zr12_14, zr12_15, zr12_16, zr12_19, zr12_20, zr12_21, zr12_24, zr12_25, zr12_25n, zr12_26, zr12_27, zr12_28, zr12_31, zr12_32, zs_x0 N, zh_x0 ca cb cs, hsp, zq_kill_int, zq_kill_ref, zq_kill_ret, zq_kill_null, zq_kill_long, zq_rf_some, zq_rf_none, true_and, and_true, true_implies, not_true_eq_false, not_false_eq_true, false_implies, Bool.true_eq_false, Bool.false_eq_true, nI_1, zb_i0, zb_i1, zb_i2, Option.toList_some, Option.toList_none, List.cons_append, List.nil_append, true_or, or_true, implies_true, zb_it, zb_if, zb_10, zb_00, zb_n5, zb_n2, zb_m1, zb_m3, zb_m9, or_true, true_or, or_false, false_or, k_EF_stripAt hs (show 4 ≤ 6 by omega) hj, z1, z2, k_EF_found5]
        · simp only [zr123_0, zr123_1, zr123_4, zr123_7, zr123_8, zr123_10, zr123_13, zr123_14, zr123_15, zr123_16, zr123_19, zr123_20, zr123_21, zr123_24, zr123_25, zr123_26, zr123_29, zr123_30, zr123_31, zr123_32, zr123_33, zr123_35, zr123_37, zr123_40, zr123_41, zr123_44, zr123_46, zr123_47, zr123_48, zr123_49, zr123_50, zr123_52, zr123_53, zr123_56, zr123_59, zr123_60, zr124_0, zr124_1, zr124_2, zr124_3, zr124_6, zs_m0 N, zs_m1 N, zs_m2 N, zh_m0 ca cb cs, zq_kill_int, zq_kill_ref, zq_kill_ret, zq_kill_null, zq_kill_long, zq_rf_some, zq_rf_none, true_and, and_true, true_implies, not_true_eq_false, not_false_eq_true, false_implies, Bool.true_eq_false, Bool.false_eq_true, nI_1, zb_i0, zb_i1, zb_i2, Option.toList_some, Option.toList_none, List.cons_append, List.nil_append, true_or, or_true, implies_true, zb_it, zb_if, zb_10, zb_00, zb_n5, zb_n2, zb_m1, zb_m3, zb_m9, or_true, true_or, or_false, false_or, k_M_in, hin, e40, z1, z2, k_M_meet5]
      · obtain ⟨n, hn, rfl⟩ := zb_le (by omega) z2 z1
        refine ⟨.int (nI n), zq_w (zq_u hi (15 + 2 * j) 1 (nI n)) (15 + 1 + 2 * j) (zf (hi (15 + 1 + 2 * j)) 0 32 60), hl, ca, cb, cs, zq_w (zq_u (zq_w (zq_u hi (15 + 2 * j) 1 (nI n)) (15 + 1 + 2 * j) (zf (hi (15 + 1 + 2 * j)) 0 32 60)) 65 j (nI n)) 66 (zf (hi 66) (60 * j) 32 60), hl, W, P, D, fun Q => ?_, fun Q => ?_, ?_⟩
        · have e1 : zq_u hi (15 + 2 * j) 1 (nI n) (15 + 1 + 2 * j) = hi (15 + 1 + 2 * j) := zq_u_ne (by omega)
          simp only [zr23_0, zr23_1, zr23_2, zr23_5, zr23_6, zr23_9, zr23_10, zr23_12, zr23_12n, zr23_15, zr12_0, zr12_0n, zr12_1, zr12_1n, zr12_4, zr12_5, zr12_5n, zr12_6, zr12_9, zr12_10, zr12_13, zr12_14, zr12_15, zr12_16, zr12_19, zr12_20, zr12_21, zr12_24, zr12_25, zr12_25n, zr12_26, zr12_27, zr12_28, zr12_31, zr12_32, zr9_0, zr9_1, zr9_4, zr9_5, zr9_6, zr9_9, zr9_10, zr9_13, zr9_14, zr9_15, zr9_16, zr9_19, zr9_20, zr9_23, zr9_24, zr9_27, zs_x0 N, zh_x0 ca cb cs, hsp, zq_kill_int, zq_kill_ref, zq_kill_ret, zq_kill_null, zq_kill_long, zq_rf_some, zq_rf_none, true_and, and_true, true_implies, not_true_eq_false, not_false_eq_true, false_implies, Bool.true_eq_false, Bool.false_eq_true, nI_1, zb_i0, zb_i1, zb_i2, Option.toList_some, Option.toList_none, List.cons_append, List.nil_append, true_or, or_true, implies_true, zb_it, zb_if, zb_10, zb_00, zb_n5, zb_n2, zb_m1, zb_m3, zb_m9, or_true, true_or, or_false, false_or, k_EF_stripAt hs (show 4 ≤ 6 by omega) hj, z1, z2, k_fill hsp.2.2.2.1 hsp.2.2.2.2.1 hsp.2.2.2.2.2 (by omega), e1]
        · generalize hh : zq_w (zq_u hi (15 + 2 * j) 1 (nI n)) (15 + 1 + 2 * j) (zf (hi (15 + 1 + 2 * j)) 0 32 60) = hi1
          have e1 : zq_u hi1 65 j (nI n) 66 = hi 66 := by rw [zq_u_ne (by omega), ← hh, zq_w_ne (by omega), zq_u_ne (by omega)]
          have lp := k_M_text_loop (N := N) (d := 57) (ca := ca) (cb := cb) (cs := cs) (hi := zq_u hi1 65 j (nI n)) (hl := hl) (Q := Q) (w := .int (nI n)) hj
          rw [zf_0, zq_w_self, e1] at lp
          simp only [zr123_0, zr123_1, zr123_4, zr123_7, zr123_8, zr123_10, zr123_13, zr123_14, zr123_15, zr123_16, zr123_19, zr123_20, zr123_21, zr123_24, zr123_25, zr123_26, zr123_29, zr123_30, zr123_31, zr123_32, zr123_33, zr123_35, zr123_37, zr123_40, zr123_41, zr123_44, zr123_46, zr123_47, zr123_48, zr123_49, zr123_50, zr123_52, zr123_53, zr123_56, zr123_59, zr123_60, zr124_0, zr124_1, zr124_2, zr124_3, zr124_6, zs_m0 N, zs_m1 N, zs_m2 N, zh_m0 ca cb cs, zq_kill_int, zq_kill_ref, zq_kill_ret, zq_kill_null, zq_kill_long, zq_rf_some, zq_rf_none, true_and, and_true, true_implies, not_true_eq_false, not_false_eq_true, false_implies, Bool.true_eq_false, Bool.false_eq_true, nI_1, zb_i0, zb_i1, zb_i2, Option.toList_some, Option.toList_none, List.cons_append, List.nil_append, true_or, or_true, implies_true, zb_it, zb_if, zb_10, zb_00, zb_n5, zb_n2, zb_m1, zb_m3, zb_m9, or_true, true_or, or_false, false_or, k_M_in, hin, e40, z1, z2, h1, h2]
          refine Eq.trans lp ?_
          have x3 : (nI 60 < 60) = False := eq_false (by decide)
          rw [zr123_34]
          simp only [zr123_0, zr123_1, zr123_4, zr123_7, zr123_8, zr123_10, zr123_13, zr123_14, zr123_15, zr123_16, zr123_19, zr123_20, zr123_21, zr123_24, zr123_25, zr123_26, zr123_29, zr123_30, zr123_31, zr123_32, zr123_33, zr123_35, zr123_37, zr123_40, zr123_41, zr123_44, zr123_46, zr123_47, zr123_48, zr123_49, zr123_50, zr123_52, zr123_53, zr123_56, zr123_59, zr123_60, zq_kill_int, zq_kill_ref, zq_kill_ret, zq_kill_null, zq_kill_long, zq_rf_some, zq_rf_none, true_and, and_true, true_implies, not_true_eq_false, not_false_eq_true, false_implies, Bool.true_eq_false, Bool.false_eq_true, nI_1, zb_i0, zb_i1, zb_i2, Option.toList_some, Option.toList_none, List.cons_append, List.nil_append, true_or, or_true, implies_true, x3]
        · have hcc := h.court
          refine h.fr2 h.2.1 (fun a ha => ?_) ?_ ?_ ?_ ?_ ?_
          · unfold keepc at ha
            rw [zq_w_ne (by omega), zq_u_ne (by omega), zq_w_ne (by omega), zq_u_ne (by omega)]
          · rw [zq_w_ne (x := 60) (by omega), zq_u_ne (x := 60) (by omega), zq_w_ne (x := 60) (by omega), zq_u_ne (x := 60) (by omega)]; exact ⟨rfl, rfl, rfl⟩
          · rw [zq_w_ne (x := 60) (by omega), zq_u_ne (x := 60) (by omega), zq_w_ne (x := 60) (by omega), zq_u_ne (x := 60) (by omega)]; exact ⟨rfl, rfl, rfl, rfl⟩
          · obtain ⟨t1, t2, t3, t4, t5⟩ := h.2.2.1
            refine ⟨?_, t2, t3, ?_, fun f hf => ?_⟩
            · rw [zq_w_ne (by omega), zq_u_ne (by omega), zq_w_ne (by omega), zq_u_ne (by omega), zq_w_ne (by omega), zq_u_ne (by omega), zq_w_ne (by omega), zq_u_ne (by omega)]; exact t1
            · rw [zq_w_ne (by omega), zq_u_ne (by omega), zq_w_ne (by omega), zq_u_ne (by omega), zq_w_ne (by omega), zq_u_ne (by omega), zq_w_ne (by omega), zq_u_ne (by omega)]; exact t4
            · rw [zq_w_ne (by omega), zq_u_ne (by omega), zq_w_ne (by omega), zq_u_ne (by omega), zq_w_ne (by omega), zq_u_ne (by omega), zq_w_ne (by omega), zq_u_ne (by omega)]; exact t5 f hf
          · exact sm_st_fr h.2.2.2.1 (fun r hr => ⟨by rw [zq_w_ne (by omega), zq_u_ne (by omega), zq_w_ne (by omega), zq_u_ne (by omega)], by rw [zq_w_ne (by omega), zq_u_ne (by omega), zq_w_ne (by omega), zq_u_ne (by omega)]⟩) (by rw [zq_w_ne (by omega), zq_u_ne (by omega), zq_w_ne (by omega), zq_u_ne (by omega)]) (by rw [zq_w_ne (by omega), zq_u_ne (by omega), zq_w_ne (by omega), zq_u_ne (by omega)])
          · refine sm_st_upd h.2.2.2.2.1 (j := j) (Or.inr ⟨n, hn, ?_, ?_, fun k hk => ?_⟩) fun r hr hne => ⟨?_, ?_, fun k hk => ⟨?_, ?_⟩⟩
            · rw [zq_w_ne (by omega), zq_u_ne (by omega), zq_w_ne (by omega), zq_u_eq]
            · rw [zq_w_ne (by omega), zq_u_eq]
            · rw [zq_w_eq, zq_w_ne (by omega), zq_u_ne (by omega), zq_w_eq]
              unfold zf
              rw [if_pos (by omega), if_pos (by omega)]
            · rw [zq_w_ne (by omega), zq_u_ne (by omega), zq_w_ne (by omega), zq_u_ne (by omega)]
            · rw [zq_w_ne (by omega), zq_u_kn hne, zq_w_ne (by omega), zq_u_ne (by omega)]
            · rw [zq_w_ne (by omega), zq_u_ne (by omega), zq_w_ne (by omega), zq_u_ne (by omega)]
            · rw [zq_w_eq]
              unfold zf
              rw [if_neg (by omega)]
end Z31
