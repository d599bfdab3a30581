/-! A deed on both sides; what the reference writes and reads -/
/-- class cells of one heap, reference cells of another -/
def jn (K1 K2 : zq_I) : zq_I := fun a => if a < 60 then K1 a else K2 a
theorem jn_lo {K1 K2 : zq_I} {a : Nat} (h : a < 60) : jn K1 K2 a = K1 a := if_pos h
theorem jn_hi {K1 K2 : zq_I} {a : Nat} (h : 60 ≤ a) : jn K1 K2 a = K2 a := if_neg (by omega)
theorem jn_self (K : zq_I) : jn K K = K := by
  funext a
  unfold jn
  split <;> rfl
/-- seventeen ints of the reference's course -/
def zm_sn (hi : zq_I) (r : Nat) : Int32 := if r = 0 then hi 60 25 else if r = 1 then hi 60 26 else if r = 2 then hi 60 27 else if r < 10 then hi 74 (r - 3) else hi 75 (r - 10)
def zm_wk (hi : zq_I) (A at' k : Nat) (j : Nat) : Int32 := if at' ≤ j ∧ j < at' + 17 ∧ (j < at' + 3 + k ∨ (at' + 10 ≤ j ∧ j < at' + 10 + k)) then zm_sn hi (j - at') else hi A j
def zm_wr (hi : zq_I) (A at' : Nat) : zq_I := zq_w hi A (zm_wk hi A at' 7)
def zm_rk (hi : zq_I) (A at' k : Nat) : zq_I := zq_w (zq_w (zq_u (zq_u (zq_u hi 60 25 (hi A at')) 60 26 (hi A (at' + 1))) 60 27 (hi A (at' + 2))) 74 (fun j => if j < k then hi A (at' + 3 + j) else hi 74 j)) 75 (fun j => if j < k then hi A (at' + 10 + j) else hi 75 j)
def zm_rd (hi : zq_I) (A at' : Nat) : zq_I := zm_rk hi A at' 7
section Z35
variable {N ca cb cs d A T : Nat} {hi : zq_I} {hl : zq_J} {Q : Option Value → zq_G → Prop}
theorem zm_wk_in {at' k j : Nat} (h : at' ≤ j ∧ j < at' + 17 ∧ (j < at' + 3 + k ∨ (at' + 10 ≤ j ∧ j < at' + 10 + k))) : zm_wk hi A at' k j = zm_sn hi (j - at') := if_pos h
theorem zm_wk_out {at' k j : Nat} (h : ¬ (at' ≤ j ∧ j < at' + 17 ∧ (j < at' + 3 + k ∨ (at' + 10 ≤ j ∧ j < at' + 10 + k)))) : zm_wk hi A at' k j = hi A j := if_neg h
theorem k_M_write {at' : Nat} (h1 : zq_aW (zq_SG N) A) (h2 : zq_ln (zq_SG N) A = T) (hT : T ≤ 3000) (hA : at' + 17 ≤ T) (a1 : A ≠ 60) (a2 : A ≠ 74) (a3 : A ≠ 75) : zq_P d 150 0 [.ref 60, .ref A, .int (nI at'), .retAddr 0] [] (zq_SG N, hi, hl, zq_HR ca cb cs) Q = Q none (zq_SG N, zm_wr hi A at', hl, zq_HR ca cb cs) := by
  have loop : zq_P d 150 27 [.ref 60, .ref A, .int (nI at'), .int (nI 0)] [] (zq_SG N, zq_w hi A (zm_wk hi A at' 0), hl, zq_HR ca cb cs) Q = zq_P d 150 27 [.ref 60, .ref A, .int (nI at'), .int (nI 7)] [] (zq_SG N, zq_w hi A (zm_wk hi A at' 7), hl, zq_HR ca cb cs) Q := by
    refine zq_loop (f := fun k => zq_P d 150 27 [.ref 60, .ref A, .int (nI at'), .int (nI k)] [] (zq_SG N, zq_w hi A (zm_wk hi A at' k), hl, zq_HR ca cb cs) Q) fun k hk => ?_
    have x1 : zq_xS (nI k) 7 := zb_x (by omega) (by omega)
    have x2 : (nI k).toNatClampNeg = k := zb_cl (by omega)
    have x3 : zq_xS (nI (at' + 3 + k)) T := zb_x (by omega) (by omega)
    have x4 : (nI (at' + 3 + k)).toNatClampNeg = at' + 3 + k := zb_cl (by omega)
    have x5 : zq_xS (nI (at' + 10 + k)) T := zb_x (by omega) (by omega)
    have x6 : (nI (at' + 10 + k)).toNatClampNeg = at' + 10 + k := zb_cl (by omega)
    have h3 : (nI k < 7) = True := eq_true ((nI_ltI (b := 7) (by omega) (by omega)).mpr hk)
    have p1 : nI at' + 3 + nI k = nI (at' + 3 + k) := by rw [show (3 : Int32) = nI 3 from rfl, nI_add, nI_add]
    have p2 : nI at' + 10 + nI k = nI (at' + 10 + k) := by rw [show (10 : Int32) = nI 10 from rfl, nI_add, nI_add]
    have e1 : ∀ f, zq_w hi A f 74 = hi 74 := fun f => zq_w_ne (Ne.symm a2)
    have e2 : ∀ f, zq_w hi A f 75 = hi 75 := fun f => zq_w_ne (Ne.symm a3)
    have e : (fun j => if j = at' + 10 + k then hi 75 k else if j = at' + 3 + k then hi 74 k else zm_wk hi A at' k j) = zm_wk hi A at' (k + 1) := by
      funext j
      by_cases q1 : j = at' + 10 + k
      · rw [if_pos q1, zm_wk_in (by omega), q1]
        unfold zm_sn
        rw [if_neg (by omega), if_neg (by omega), if_neg (by omega), if_neg (by omega)]
        congr 1
        omega
      · rw [if_neg q1]
        by_cases q2 : j = at' + 3 + k
        · rw [if_pos q2, zm_wk_in (by omega), q2]
          unfold zm_sn
          rw [if_neg (by omega), if_neg (by omega), if_neg (by omega), if_pos (by omega)]
          congr 1
          omega
        · rw [if_neg q2]
          by_cases q3 : at' ≤ j ∧ j < at' + 17 ∧ (j < at' + 3 + k ∨ (at' + 10 ≤ j ∧ j < at' + 10 + k))
          · rw [zm_wk_in q3, zm_wk_in (by omega)]
          · rw [zm_wk_out q3, zm_wk_out (by omega)]
    rw [zr150_27]
    simp only [zr150_0, zr150_1, zr150_2, zr150_3, zr150_6, zr150_7, zr150_8, zr150_9, zr150_10, zr150_11, zr150_12, zr150_15, zr150_16, zr150_17, zr150_18, zr150_19, zr150_20, zr150_21, zr150_24, zr150_25, zr150_26, zr150_28, zr150_30, zr150_33, zr150_34, zr150_35, zr150_36, zr150_37, zr150_38, zr150_39, zr150_40, zr150_43, zr150_44, zr150_45, zr150_46, zr150_47, zr150_48, zr150_50, zr150_51, zr150_52, zr150_53, zr150_54, zr150_57, zr150_58, zr150_59, zr150_60, zr150_63, zr150_66, zs_m0 N, zs_m1 N, zs_m2 N, zh_m0 ca cb cs, h1, h2, zq_kill_int, zq_kill_ref, zq_kill_ret, zq_kill_null, zq_kill_long, zq_rf_some, zq_rf_none, true_and, and_true, true_implies, not_true_eq_false, not_false_eq_true, false_implies, Bool.true_eq_false, Bool.false_eq_true, nI_1, zb_i0, zb_i1, zb_i2, Option.toList_some, Option.toList_none, List.cons_append, List.nil_append, true_or, or_true, implies_true, zb_it, zb_if, zb_10, zb_00, zb_n5, zb_n2, zb_m1, zb_m3, zb_m9, or_true, true_or, or_false, false_or, h3, p1, p2, x1, x2, x3, x4, x5, x6, e1, e2, zq_w_u, e]
  have y0 : zq_xS (nI at') T := zb_x (by omega) (by omega)
  have y1 : zq_xS (nI (at' + 1)) T := zb_x (by omega) (by omega)
  have y2 : zq_xS (nI (at' + 2)) T := zb_x (by omega) (by omega)
  have z0 : (nI at').toNatClampNeg = at' := zb_cl (by omega)
  have z1 : (nI (at' + 1)).toNatClampNeg = at' + 1 := zb_cl (by omega)
  have z2 : (nI (at' + 2)).toNatClampNeg = at' + 2 := zb_cl (by omega)
  have p1 : nI at' + 2 = nI (at' + 2) := by rw [show (2 : Int32) = nI 2 from rfl, nI_add]
  have h3 : (nI 7 < 7) = False := eq_false (by decide)
  have e0 : ∀ k v, zq_u hi A k v 60 = hi 60 := fun k v => zq_u_ne (Ne.symm a1)
  have e01 : ∀ k v k2 v2, zq_u (zq_u hi A k v) A k2 v2 60 = hi 60 := fun k v k2 v2 => by rw [zq_u_ne (Ne.symm a1), zq_u_ne (Ne.symm a1)]
  have e : zq_u (zq_u (zq_u hi A at' (hi 60 25)) A (at' + 1) (hi 60 26)) A (at' + 2) (hi 60 27) = zq_w hi A (zm_wk hi A at' 0) := by
    funext a j
    by_cases qa : a = A
    · subst qa
      rw [zq_w_eq]
      by_cases q2 : j = at' + 2
      · rw [q2, zq_u_eq, zm_wk_in (by omega), show at' + 2 - at' = 2 by omega]; rfl
      · rw [zq_u_kn q2]
        by_cases q1 : j = at' + 1
        · rw [q1, zq_u_eq, zm_wk_in (by omega), show at' + 1 - at' = 1 by omega]; rfl
        · rw [zq_u_kn q1]
          by_cases q0 : j = at'
          · rw [q0, zq_u_eq, zm_wk_in (by omega), show at' - at' = 0 by omega]; rfl
          · rw [zq_u_kn q0, zm_wk_out (by omega)]
    · rw [zq_u_ne qa, zq_u_ne qa, zq_u_ne qa, zq_w_ne qa]
  simp only [zr150_0, zr150_1, zr150_2, zr150_3, zr150_6, zr150_7, zr150_8, zr150_9, zr150_10, zr150_11, zr150_12, zr150_15, zr150_16, zr150_17, zr150_18, zr150_19, zr150_20, zr150_21, zr150_24, zr150_25, zr150_26, zr150_28, zr150_30, zr150_33, zr150_34, zr150_35, zr150_36, zr150_37, zr150_38, zr150_39, zr150_40, zr150_43, zr150_44, zr150_45, zr150_46, zr150_47, zr150_48, zr150_50, zr150_51, zr150_52, zr150_53, zr150_54, zr150_57, zr150_58, zr150_59, zr150_60, zr150_63, zr150_66, zs_m0 N, zs_m1 N, zs_m2 N, zh_m0 ca cb cs, h1, h2, zq_kill_int, zq_kill_ref, zq_kill_ret, zq_kill_null, zq_kill_long, zq_rf_some, zq_rf_none, true_and, and_true, true_implies, not_true_eq_false, not_false_eq_true, false_implies, Bool.true_eq_false, Bool.false_eq_true, nI_1, zb_i0, zb_i1, zb_i2, Option.toList_some, Option.toList_none, List.cons_append, List.nil_append, true_or, or_true, implies_true, zb_it, zb_if, zb_10, zb_00, zb_n5, zb_n2, zb_m1, zb_m3, zb_m9, or_true, true_or, or_false, false_or, p1, y0, y1, y2, z0, z1, z2, e0, e01, e]
  refine Eq.trans loop ?_
  rw [zr150_27]
  simp only [zr150_0, zr150_1, zr150_2, zr150_3, zr150_6, zr150_7, zr150_8, zr150_9, zr150_10, zr150_11, zr150_12, zr150_15, zr150_16, zr150_17, zr150_18, zr150_19, zr150_20, zr150_21, zr150_24, zr150_25, zr150_26, zr150_28, zr150_30, zr150_33, zr150_34, zr150_35, zr150_36, zr150_37, zr150_38, zr150_39, zr150_40, zr150_43, zr150_44, zr150_45, zr150_46, zr150_47, zr150_48, zr150_50, zr150_51, zr150_52, zr150_53, zr150_54, zr150_57, zr150_58, zr150_59, zr150_60, zr150_63, zr150_66, zs_m0 N, zs_m1 N, zs_m2 N, zh_m0 ca cb cs, zq_kill_int, zq_kill_ref, zq_kill_ret, zq_kill_null, zq_kill_long, zq_rf_some, zq_rf_none, true_and, and_true, true_implies, not_true_eq_false, not_false_eq_true, false_implies, Bool.true_eq_false, Bool.false_eq_true, nI_1, zb_i0, zb_i1, zb_i2, Option.toList_some, Option.toList_none, List.cons_append, List.nil_append, true_or, or_true, implies_true, zb_it, zb_if, zb_10, zb_00, zb_n5, zb_n2, zb_m1, zb_m3, zb_m9, or_true, true_or, or_false, false_or, h3, zm_wr]
theorem k_M_read {at' : Nat} (h1 : zq_aS (zq_SG N) A) (h2 : zq_ln (zq_SG N) A = T) (hT : T ≤ 3000) (hA : at' + 17 ≤ T) (a1 : A ≠ 60) (a2 : A ≠ 74) (a3 : A ≠ 75) : zq_P d 157 0 [.ref 60, .ref A, .int (nI at'), .retAddr 0] [] (zq_SG N, hi, hl, zq_HR ca cb cs) Q = Q none (zq_SG N, zm_rd hi A at', hl, zq_HR ca cb cs) := by
  have loop : zq_P d 157 27 [.ref 60, .ref A, .int (nI at'), .int (nI 0)] [] (zq_SG N, zm_rk hi A at' 0, hl, zq_HR ca cb cs) Q = zq_P d 157 27 [.ref 60, .ref A, .int (nI at'), .int (nI 7)] [] (zq_SG N, zm_rk hi A at' 7, hl, zq_HR ca cb cs) Q := by
    refine zq_loop (f := fun k => zq_P d 157 27 [.ref 60, .ref A, .int (nI at'), .int (nI k)] [] (zq_SG N, zm_rk hi A at' k, hl, zq_HR ca cb cs) Q) fun k hk => ?_
    have x1 : zq_xS (nI k) 7 := zb_x (by omega) (by omega)
    have x2 : (nI k).toNatClampNeg = k := zb_cl (by omega)
    have x3 : zq_xS (nI (at' + 3 + k)) T := zb_x (by omega) (by omega)
    have x4 : (nI (at' + 3 + k)).toNatClampNeg = at' + 3 + k := zb_cl (by omega)
    have x5 : zq_xS (nI (at' + 10 + k)) T := zb_x (by omega) (by omega)
    have x6 : (nI (at' + 10 + k)).toNatClampNeg = at' + 10 + k := zb_cl (by omega)
    have h3 : (nI k < 7) = True := eq_true ((nI_ltI (b := 7) (by omega) (by omega)).mpr hk)
    have p1 : nI at' + 3 + nI k = nI (at' + 3 + k) := by rw [show (3 : Int32) = nI 3 from rfl, nI_add, nI_add]
    have p2 : nI at' + 10 + nI k = nI (at' + 10 + k) := by rw [show (10 : Int32) = nI 10 from rfl, nI_add, nI_add]
    have e1 : zm_rk hi A at' k A = hi A := by unfold zm_rk; rw [zq_w_ne a3, zq_w_ne a2, zq_u_ne a1, zq_u_ne a1, zq_u_ne a1]
    have e2 : ∀ v, zq_u (zm_rk hi A at' k) 74 k v A = hi A := fun v => by rw [zq_u_ne a2]; exact e1
    have e : zq_u (zq_u (zm_rk hi A at' k) 74 k (hi A (at' + 3 + k))) 75 k (hi A (at' + 10 + k)) = zm_rk hi A at' (k + 1) := by
      funext a j
      unfold zm_rk
      by_cases q5 : a = 75
      · subst q5
        rw [zq_w_eq]
        by_cases qj : j = k
        · subst qj; rw [zq_u_eq, if_pos (by omega)]
        · rw [zq_u_kn qj, zq_u_ne (by omega), zq_w_eq]
          by_cases qk : j < k
          · rw [if_pos qk, if_pos (by omega)]
          · rw [if_neg qk, if_neg (by omega)]
      · rw [zq_u_ne q5, zq_w_ne q5]
        by_cases q4 : a = 74
        · subst q4
          rw [zq_w_eq]
          by_cases qj : j = k
          · subst qj; rw [zq_u_eq, if_pos (by omega)]
          · rw [zq_u_kn qj, zq_w_ne (by omega), zq_w_eq]
            by_cases qk : j < k
            · rw [if_pos qk, if_pos (by omega)]
            · rw [if_neg qk, if_neg (by omega)]
        · rw [zq_u_ne q4, zq_w_ne q5, zq_w_ne q4, zq_w_ne q4]
    rw [zr157_27]
    simp only [zr157_0, zr157_1, zr157_2, zr157_3, zr157_4, zr157_7, zr157_8, zr157_9, zr157_10, zr157_11, zr157_12, zr157_13, zr157_16, zr157_17, zr157_18, zr157_19, zr157_20, zr157_21, zr157_22, zr157_25, zr157_26, zr157_28, zr157_30, zr157_33, zr157_34, zr157_37, zr157_38, zr157_39, zr157_40, zr157_41, zr157_42, zr157_43, zr157_44, zr157_45, zr157_46, zr157_47, zr157_50, zr157_51, zr157_52, zr157_53, zr157_55, zr157_56, zr157_57, zr157_58, zr157_59, zr157_60, zr157_63, zr157_66, zs_m0 N, zs_m1 N, zs_m2 N, zh_m0 ca cb cs, h1, h2, zq_kill_int, zq_kill_ref, zq_kill_ret, zq_kill_null, zq_kill_long, zq_rf_some, zq_rf_none, true_and, and_true, true_implies, not_true_eq_false, not_false_eq_true, false_implies, Bool.true_eq_false, Bool.false_eq_true, nI_1, zb_i0, zb_i1, zb_i2, Option.toList_some, Option.toList_none, List.cons_append, List.nil_append, true_or, or_true, implies_true, zb_it, zb_if, zb_10, zb_00, zb_n5, zb_n2, zb_m1, zb_m3, zb_m9, or_true, true_or, or_false, false_or, h3, p1, p2, x1, x2, x3, x4, x5, x6, e1, e2, e]
  have y0 : zq_xS (nI at') T := zb_x (by omega) (by omega)
  have y1 : zq_xS (nI (at' + 1)) T := zb_x (by omega) (by omega)
  have y2 : zq_xS (nI (at' + 2)) T := zb_x (by omega) (by omega)
  have z0 : (nI at').toNatClampNeg = at' := zb_cl (by omega)
  have z1 : (nI (at' + 1)).toNatClampNeg = at' + 1 := zb_cl (by omega)
  have z2 : (nI (at' + 2)).toNatClampNeg = at' + 2 := zb_cl (by omega)
  have p1 : nI at' + 2 = nI (at' + 2) := by rw [show (2 : Int32) = nI 2 from rfl, nI_add]
  have h3 : (nI 7 < 7) = False := eq_false (by decide)
  have e0 : ∀ k v, zq_u hi 60 k v A = hi A := fun k v => zq_u_ne a1
  have e01 : ∀ k v k2 v2, zq_u (zq_u hi 60 k v) 60 k2 v2 A = hi A := fun k v k2 v2 => by rw [zq_u_ne a1, zq_u_ne a1]
  have e : zq_u (zq_u (zq_u hi 60 25 (hi A at')) 60 26 (hi A (at' + 1))) 60 27 (hi A (at' + 2)) = zm_rk hi A at' 0 := by
    unfold zm_rk
    have f1 : ∀ b o, (fun j : Nat => if j < 0 then hi A (at' + o + j) else hi b j) = hi b := fun b o => by funext j; rw [if_neg (by omega)]
    rw [f1, f1]
    generalize hg : zq_u (zq_u (zq_u hi 60 25 (hi A at')) 60 26 (hi A (at' + 1))) 60 27 (hi A (at' + 2)) = g
    have g4 : hi 74 = g 74 := by rw [← hg, zq_u_ne (by omega), zq_u_ne (by omega), zq_u_ne (by omega)]
    have g5 : hi 75 = g 75 := by rw [← hg, zq_u_ne (by omega), zq_u_ne (by omega), zq_u_ne (by omega)]
    rw [g4, g5, zq_w_self, zq_w_self]
  simp only [zr157_0, zr157_1, zr157_2, zr157_3, zr157_4, zr157_7, zr157_8, zr157_9, zr157_10, zr157_11, zr157_12, zr157_13, zr157_16, zr157_17, zr157_18, zr157_19, zr157_20, zr157_21, zr157_22, zr157_25, zr157_26, zr157_28, zr157_30, zr157_33, zr157_34, zr157_37, zr157_38, zr157_39, zr157_40, zr157_41, zr157_42, zr157_43, zr157_44, zr157_45, zr157_46, zr157_47, zr157_50, zr157_51, zr157_52, zr157_53, zr157_55, zr157_56, zr157_57, zr157_58, zr157_59, zr157_60, zr157_63, zr157_66, zs_m0 N, zs_m1 N, zs_m2 N, zh_m0 ca cb cs, h1, h2, zq_kill_int, zq_kill_ref, zq_kill_ret, zq_kill_null, zq_kill_long, zq_rf_some, zq_rf_none, true_and, and_true, true_implies, not_true_eq_false, not_false_eq_true, false_implies, Bool.true_eq_false, Bool.false_eq_true, nI_1, zb_i0, zb_i1, zb_i2, Option.toList_some, Option.toList_none, List.cons_append, List.nil_append, true_or, or_true, implies_true, zb_it, zb_if, zb_10, zb_00, zb_n5, zb_n2, zb_m1, zb_m3, zb_m9, or_true, true_or, or_false, false_or, p1, y0, y1, y2, z0, z1, z2, e0, e01, e]
  refine Eq.trans loop ?_
  rw [zr157_27]
  simp only [zr157_0, zr157_1, zr157_2, zr157_3, zr157_4, zr157_7, zr157_8, zr157_9, zr157_10, zr157_11, zr157_12, zr157_13, zr157_16, zr157_17, zr157_18, zr157_19, zr157_20, zr157_21, zr157_22, zr157_25, zr157_26, zr157_28, zr157_30, zr157_33, zr157_34, zr157_37, zr157_38, zr157_39, zr157_40, zr157_41, zr157_42, zr157_43, zr157_44, zr157_45, zr157_46, zr157_47, zr157_50, zr157_51, zr157_52, zr157_53, zr157_55, zr157_56, zr157_57, zr157_58, zr157_59, zr157_60, zr157_63, zr157_66, zs_m0 N, zs_m1 N, zs_m2 N, zh_m0 ca cb cs, zq_kill_int, zq_kill_ref, zq_kill_ret, zq_kill_null, zq_kill_long, zq_rf_some, zq_rf_none, true_and, and_true, true_implies, not_true_eq_false, not_false_eq_true, false_implies, Bool.true_eq_false, Bool.false_eq_true, nI_1, zb_i0, zb_i1, zb_i2, Option.toList_some, Option.toList_none, List.cons_append, List.nil_append, true_or, or_true, implies_true, zb_it, zb_if, zb_10, zb_00, zb_n5, zb_n2, zb_m1, zb_m3, zb_m9, or_true, true_or, or_false, false_or, h3, zm_rd]
/-- a deed: a way, or none -/
def ddi : Option Nat → Int32
  | none => -1
  | some w => nI w
def cst (hi : zq_I) (ca D : Nat) : Option Nat → zq_I
  | none => zc_re (zq_u (zq_u hi 31 D (-1)) 30 1 (nI (D + 1))) 32
  | some w => zc_go (zq_u (zq_u hi 31 D (nI w)) 30 1 (nI (D + 1))) ca 32 w
def mno (hi : zq_I) (D : Nat) : zq_I := zq_u (zm_wr hi 76 (17 * D)) 60 30 (nI (D + 1))
def mst (hi : zq_I) (D : Nat) : Option Nat → zq_I
  | none => zm_re (mno hi D)
  | some w => zm_go (mno hi D) w
theorem k_EF_doDeed {W D : Nat} {x : Option Nat} (hca : ca = 36 ∨ ca = 45) (hp : hi ca 10 = nI W) (hW : W ≤ 7) (hx : ∀ w, x = some w → w < W) (hD : D < 40) (h30 : hi 30 1 = nI D) : zq_P (d + 2) 54 0 [.ref 0, .int (ddi x)] [] (zq_SG N, hi, hl, zq_HR ca cb cs) Q = Q none (zq_SG N, cst hi ca D x, hl, zq_HR ca cb cs) := by
  have hc := zq_Ct_ok (N := N) (ca := ca) (cb := cb) (cs := cs) hca
  have ho := zq_Co_ok (N := N) (ca := ca) (cb := cb) (cs := cs) (o := 32) (Or.inl rfl)
  have x1 : zq_xS (nI D) 40 := zb_x (by omega) (by omega)
  have x2 : (nI D).toNatClampNeg = D := zb_cl (by omega)
  have x3 : (nI D < 40) = True := eq_true ((nI_ltI (b := 40) (by omega) (by omega)).mpr hD)
  have e1 : ∀ k v, zq_u hi 31 k v 30 1 = nI D := fun k v => by rw [zq_u_ne (by omega)]; exact h30
  cases x with
  | none => simp only [ddi, zr54_0, zr54_1, zr54_4, zr54_7, zr54_9, zr54_12, zr54_13, zr54_14, zr54_17, zr54_20, zr54_21, zr54_24, zr54_27, zr54_28, zr54_29, zr54_30, zr54_33, zr54_34, zr54_37, zr54_38, zr54_39, zr54_42, zr54_43, zr54_46, zr54_47, zr54_50, zr54_51, zr54_54, zs_x0 N, zh_x0 ca cb cs, hc.1, zq_kill_int, zq_kill_ref, zq_kill_ret, zq_kill_null, zq_kill_long, zq_rf_some, zq_rf_none, true_and, and_true, true_implies, not_true_eq_false, not_false_eq_true, false_implies, Bool.true_eq_false, Bool.false_eq_true, nI_1, zb_i0, zb_i1, zb_i2, Option.toList_some, Option.toList_none, List.cons_append, List.nil_append, true_or, or_true, implies_true, zb_it, zb_if, zb_10, zb_00, zb_n5, zb_n2, zb_m1, zb_m3, zb_m9, or_true, true_or, or_false, false_or, h30, x1, x2, x3, e1, k_Course_goOnR hc ho, cst]
  | some w =>
    have e2 : ∀ k v v2, zq_u (zq_u hi 31 k v) 30 1 v2 ca 10 = nI W := fun k v v2 => by rw [zq_u_ne (by omega), zq_u_ne (by omega)]; exact hp
    simp only [ddi, zr54_0, zr54_1, zr54_4, zr54_7, zr54_9, zr54_12, zr54_13, zr54_14, zr54_17, zr54_20, zr54_21, zr54_24, zr54_27, zr54_28, zr54_29, zr54_30, zr54_33, zr54_34, zr54_37, zr54_38, zr54_39, zr54_42, zr54_43, zr54_46, zr54_47, zr54_50, zr54_51, zr54_54, zs_x0 N, zh_x0 ca cb cs, hc.1, zq_kill_int, zq_kill_ref, zq_kill_ret, zq_kill_null, zq_kill_long, zq_rf_some, zq_rf_none, true_and, and_true, true_implies, not_true_eq_false, not_false_eq_true, false_implies, Bool.true_eq_false, Bool.false_eq_true, nI_1, zb_i0, zb_i1, zb_i2, Option.toList_some, Option.toList_none, List.cons_append, List.nil_append, true_or, or_true, implies_true, zb_it, zb_if, zb_10, zb_00, zb_n5, zb_n2, zb_m1, zb_m3, zb_m9, or_true, true_or, or_false, false_or, h30, x1, x2, x3, e1, k_Course_goOn hc ho (by omega) (e2 _ _ _) hW (hx w rfl), cst]
theorem k_M_note {D : Nat} (hD : D < 40) (h30 : hi 60 30 = nI D) : zq_P (d + 1) 149 0 [.ref 60] [] (zq_SG N, hi, hl, zq_HR ca cb cs) Q = Q none (zq_SG N, mno hi D, hl, zq_HR ca cb cs) := by
  have e1 : zm_wr hi 76 (17 * D) 60 30 = nI D := by unfold zm_wr; rw [zq_w_ne (by omega)]; exact h30
  have e2 : (17 : Int32) * nI D = nI (17 * D) := pk_mul 17 D
  have w1 : zq_aW (zq_SG N) 76 := by simp only [zs_m0 N, zs_m1 N, zs_m2 N]
  have w2 : zq_ln (zq_SG N) 76 = 680 := by simp only [zs_m0 N, zs_m1 N, zs_m2 N]
  simp only [zr149_0, zr149_1, zr149_2, zr149_5, zr149_7, zr149_8, zr149_11, zr149_12, zr149_15, zr149_16, zr149_17, zr149_20, zr149_21, zr149_22, zr149_25, zs_m0 N, zs_m1 N, zs_m2 N, zh_m0 ca cb cs, zq_kill_int, zq_kill_ref, zq_kill_ret, zq_kill_null, zq_kill_long, zq_rf_some, zq_rf_none, true_and, and_true, true_implies, not_true_eq_false, not_false_eq_true, false_implies, Bool.true_eq_false, Bool.false_eq_true, nI_1, zb_i0, zb_i1, zb_i2, Option.toList_some, Option.toList_none, List.cons_append, List.nil_append, true_or, or_true, implies_true, zb_it, zb_if, zb_10, zb_00, zb_n5, zb_n2, zb_m1, zb_m3, zb_m9, or_true, true_or, or_false, false_or, h30, e2, k_M_write w1 w2 (show 680 ≤ 3000 by omega) (show 17 * D + 17 ≤ 680 by omega) (by omega) (by omega) (by omega), e1, mno]
end Z35
