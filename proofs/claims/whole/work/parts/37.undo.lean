/-! undo, keep, on -/
def zc_rs (hi : zq_I) (q : rs_T) (i : Nat) : zq_I := zq_w (zq_w (zq_w hi 33 (fun j => if j < 7 then q.2.2.1 j else hi 33 j)) 34 (fun j => if j < 7 then q.2.2.2.1 j else hi 34 j)) 32 (fun f => if f = 2 then nI i else if f = 3 then q.2.2.2.2 else if f = 4 then q.1 else if f = 5 then q.2.1 else hi 32 f)
section Z37
variable {N ca cb cs d W P D n : Nat} {hi : zq_I} {hl : zq_J} {Q : Option Value → zq_G → Prop} {x : Int32}
theorem zc_rs_o {q : rs_T} {i a : Nat} (h : a < 32 ∨ 34 < a) : zc_rs hi q i a = hi a := by
  unfold zc_rs
  rw [zq_w_ne (by omega), zq_w_ne (by omega), zq_w_ne (by omega)]
theorem zc_rs_33 {q : rs_T} {i : Nat} : zc_rs hi q i 33 = fun j => if j < 7 then q.2.2.1 j else hi 33 j := by
  unfold zc_rs
  rw [zq_w_ne (by omega), zq_w_ne (by omega), zq_w_eq]
theorem zc_rs_34 {q : rs_T} {i : Nat} : zc_rs hi q i 34 = fun j => if j < 7 then q.2.2.2.1 j else hi 34 j := by
  unfold zc_rs
  rw [zq_w_ne (by omega), zq_w_eq]
theorem zc_rs_32 {q : rs_T} {i : Nat} : zc_rs hi q i 32 = fun f => if f = 2 then nI i else if f = 3 then q.2.2.2.2 else if f = 4 then q.1 else if f = 5 then q.2.1 else hi 32 f := by
  unfold zc_rs
  rw [zq_w_eq]
theorem zq_ext3 {g h : zq_I} (e1 : g 32 = h 32) (e2 : g 33 = h 33) (e3 : g 34 = h 34) (e4 : ∀ a, a < 32 ∨ 34 < a → g a = h a) : g = h := by
  funext a
  by_cases q1 : a = 32
  · subst q1; exact e1
  · by_cases q2 : a = 33
    · subst q2; exact e2
    · by_cases q3 : a = 34
      · subst q3; exact e3
      · exact e4 a (by omega)
theorem k_Course_begin : zq_P (d + 1) 5 0 [.ref 32] [] (zq_SG N, hi, hl, zq_HR ca cb cs) Q = Q none (zq_SG N, zc_rs hi (rs (fun _ => 0) 0 (fun _ => 0) 0) 0, hl, zq_HR ca cb cs) := by
  have ho := zq_Co_ok (N := N) (ca := ca) (cb := cb) (cs := cs) (o := 32) (Or.inl rfl)
  unfold zq_Co at ho
  obtain ⟨o1, o2, o3, o4, o5, o6⟩ := ho
  simp only [zr5_0, zr5_1, zr5_4, zr5_6, zr5_9, zr5_10, zr5_13, zr5_14, zr5_17, zr5_18, zr5_19, zr5_22, zr5_23, zr5_24, zr5_27, zr5_28, zr5_29, zr5_32, zr5_33, zr5_34, zr5_37, o1, o2, zq_kill_int, zq_kill_ref, zq_kill_ret, zq_kill_null, zq_kill_long, zq_rf_some, zq_rf_none, true_and, and_true, true_implies, not_true_eq_false, not_false_eq_true, false_implies, Bool.true_eq_false, Bool.false_eq_true, nI_1, zb_i0, zb_i1, zb_i2, Option.toList_some, Option.toList_none, List.cons_append, List.nil_append, true_or, or_true, implies_true, zb_it, zb_if, zb_10, zb_00, zb_n5, zb_n2, zb_m1, zb_m3, zb_m9, or_true, true_or, or_false, false_or, k_fill o4.1 o6.1 o5.1 (show 7 ≤ 1000 by omega), k_fill o4.2 o6.2 o5.2 (show 7 ≤ 1000 by omega)]
  congr 1
  congr 1
  congr 1
  refine zq_ext3 ?_ ?_ ?_ fun a ha => ?_
  · funext f
    rw [zc_rs_32]
    by_cases f5 : f = 5
    · subst f5; rw [zq_u_eq]; rfl
    · rw [zq_u_kn f5]
      by_cases f4 : f = 4
      · subst f4; rw [zq_u_eq]; rfl
      · rw [zq_u_kn f4]
        by_cases f3 : f = 3
        · subst f3; rw [zq_u_eq]; rfl
        · rw [zq_u_kn f3]
          by_cases f2 : f = 2
          · subst f2; rw [zq_u_eq]; rfl
          · rw [zq_u_kn f2, zq_w_ne (by omega), zq_w_ne (by omega)]
            simp only [f2, f3, f4, f5, if_false]
  · rw [zq_u_ne (by omega), zq_u_ne (by omega), zq_u_ne (by omega), zq_u_ne (by omega), zq_w_ne (by omega), zq_w_eq, zc_rs_33]
    funext j
    unfold zf
    by_cases e : j < 7
    · rw [if_pos (by omega), if_pos e]; rfl
    · rw [if_neg (by omega), if_neg e]
  · rw [zq_u_ne (by omega), zq_u_ne (by omega), zq_u_ne (by omega), zq_u_ne (by omega), zq_w_eq, zc_rs_34]
    funext j
    unfold zf
    by_cases e : j < 7
    · rw [if_pos (by omega), if_pos e]; rfl
    · rw [if_neg (by omega), if_neg e, zq_w_ne (by omega)]
  · rw [zq_u_ne (by omega), zq_u_ne (by omega), zq_u_ne (by omega), zq_u_ne (by omega), zq_w_ne (by omega), zq_w_ne (by omega), zc_rs_o (by omega)]
theorem zc_rs_go {w i : Nat} {q : rs_T} (hca : ca = 36 ∨ ca = 45) (hW : W ≤ 7) (hw : w < W) : zc_go (zc_rs hi q i) ca 32 w = zc_rs hi (rs_go (hi (ca + 6)) W (nI w) i q) (i + 1) := by
  rw [rs_go_w hW hw]
  unfold zc_go
  refine zq_ext3 ?_ ?_ ?_ fun a ha => ?_
  · funext f
    rw [zc_rs_32]
    by_cases f2 : f = 2
    · subst f2; rw [zq_u_eq, zc_rs_32]; simp only [if_true]; exact nI_1 _
    · rw [zq_u_kn f2]
      by_cases f3 : f = 3
      · subst f3; rw [zq_u_eq]; rfl
      · rw [zq_u_kn f3]
        by_cases f4 : f = 4
        · subst f4; rw [zq_u_eq, zc_rs_32, zc_rs_o (by omega)]; rfl
        · rw [zq_u_kn f4, zq_u_ne (by omega), zq_u_ne (by omega), zc_rs_32]
          simp only [zc_rs_32, f2, f3, f4, if_false]
  · rw [zq_u_ne (by omega), zq_u_ne (by omega), zq_u_ne (by omega), zq_u_ne (by omega), zc_rs_33]
    funext j
    show zq_u _ 33 w _ 33 j = _
    by_cases e : j = w
    · subst e; rw [zq_u_eq, if_pos (by omega), zc_rs_32]
      show nI i = va_up _ j _ j
      rw [va_up_self]
    · rw [zq_u_kn e, zc_rs_33]
      by_cases e7 : j < 7
      · simp only [e7, if_true]
        show _ = va_up _ w _ j
        rw [va_up_ne _ _ e]
      · simp only [e7, if_false]
  · rw [zq_u_ne (by omega), zq_u_ne (by omega), zq_u_ne (by omega)]
    funext j
    show zq_u _ 34 w _ 34 j = _
    by_cases e : j = w
    · subst e; rw [zq_u_eq]
      show zc_rs hi q i 34 j + 1 = _
      simp only [zc_rs_34, show j < 7 by omega, if_true, va_up_self]
    · rw [zq_u_kn e, zq_u_ne (by omega)]
      simp only [zc_rs_34, va_up_ne _ _ e]
  · rw [zq_u_ne (by omega), zq_u_ne (by omega), zq_u_ne (by omega), zq_u_ne (by omega), zq_u_ne (by omega), zc_rs_o ha, zc_rs_o ha]
theorem zc_rs_re {i : Nat} {q : rs_T} : zc_re (zc_rs hi q i) 32 = zc_rs hi (rs_go (hi (ca + 6)) W (-1) i q) (i + 1) := by
  rw [rs_go_r]
  unfold zc_re
  refine zq_ext3 ?_ ?_ ?_ fun a ha => ?_
  · funext f
    rw [zc_rs_32]
    by_cases f2 : f = 2
    · subst f2; rw [zq_u_eq, zc_rs_32]; simp only [if_true]; exact nI_1 _
    · rw [zq_u_kn f2]
      by_cases f3 : f = 3
      · subst f3; rw [zq_u_eq]; rfl
      · rw [zq_u_kn f3]
        by_cases f4 : f = 4
        · subst f4; rw [zq_u_eq, zc_rs_32]; rfl
        · rw [zq_u_kn f4]
          by_cases f5 : f = 5
          · subst f5; rw [zq_u_eq, zc_rs_32]; rfl
          · rw [zq_u_kn f5, zc_rs_32]
            simp only [zc_rs_32, f2, f3, f4, f5, if_false]
  · rw [zq_u_ne (by omega), zq_u_ne (by omega), zq_u_ne (by omega), zq_u_ne (by omega), zc_rs_33, zc_rs_33]
  · rw [zq_u_ne (by omega), zq_u_ne (by omega), zq_u_ne (by omega), zq_u_ne (by omega), zc_rs_34, zc_rs_34]
  · rw [zq_u_ne (by omega), zq_u_ne (by omega), zq_u_ne (by omega), zq_u_ne (by omega), zc_rs_o ha, zc_rs_o ha]
theorem k_EF_replay (hca : ca = 36 ∨ ca = 45) (hp : hi ca 10 = nI W) (hW : W ≤ 7) (hn : n ≤ 40) (h30 : hi 30 1 = nI n) (hd : dd_ok W (hi 31) n) : zq_P (d + 2) 58 0 [.ref 0, .retAddr 0] [] (zq_SG N, hi, hl, zq_HR ca cb cs) Q = Q none (zq_SG N, zc_rs hi (rs (hi (ca + 6)) W (hi 31) n) n, hl, zq_HR ca cb cs) := by
  have hc := zq_Ct_ok (N := N) (ca := ca) (cb := cb) (cs := cs) hca
  have ho := zq_Co_ok (N := N) (ca := ca) (cb := cb) (cs := cs) (o := 32) (Or.inl rfl)
  have loop : zq_P (d + 2) 58 9 [.ref 0, .int (nI 0)] [] (zq_SG N, zc_rs hi (rs (hi (ca + 6)) W (hi 31) 0) 0, hl, zq_HR ca cb cs) Q = zq_P (d + 2) 58 9 [.ref 0, .int (nI n)] [] (zq_SG N, zc_rs hi (rs (hi (ca + 6)) W (hi 31) n) n, hl, zq_HR ca cb cs) Q := by
    refine zq_loop (f := fun k => zq_P (d + 2) 58 9 [.ref 0, .int (nI k)] [] (zq_SG N, zc_rs hi (rs (hi (ca + 6)) W (hi 31) k) k, hl, zq_HR ca cb cs) Q) fun k hk => ?_
    have x1 : zq_xS (nI k) 40 := zb_x (by omega) (by omega)
    have x2 : (nI k).toNatClampNeg = k := zb_cl (by omega)
    have h3 : (nI k < nI n) = True := eq_true ((nI_ltI (by omega) (by omega)).mpr hk)
    have e1 : zc_rs hi (rs (hi (ca + 6)) W (hi 31) k) k 30 1 = nI n := by rw [zc_rs_o (by omega)]; exact h30
    have e2 : zc_rs hi (rs (hi (ca + 6)) W (hi 31) k) k ca 10 = nI W := by rw [zc_rs_o (by omega)]; exact hp
    rw [zr58_9]
    rcases hd k hk with e | ⟨w, hw, e⟩
    · have e3 : zc_rs hi (rs (hi (ca + 6)) W (hi 31) k) k 31 k = -1 := by rw [zc_rs_o (by omega)]; exact e
      simp only [zr58_0, zr58_1, zr58_4, zr58_7, zr58_8, zr58_10, zr58_11, zr58_14, zr58_17, zr58_20, zr58_21, zr58_24, zr58_25, zr58_28, zr58_29, zr58_32, zr58_35, zr58_36, zr58_37, zr58_40, zr58_43, zr58_46, zs_x0 N, zh_x0 ca cb cs, hc.1, zq_kill_int, zq_kill_ref, zq_kill_ret, zq_kill_null, zq_kill_long, zq_rf_some, zq_rf_none, true_and, and_true, true_implies, not_true_eq_false, not_false_eq_true, false_implies, Bool.true_eq_false, Bool.false_eq_true, nI_1, zb_i0, zb_i1, zb_i2, Option.toList_some, Option.toList_none, List.cons_append, List.nil_append, true_or, or_true, implies_true, zb_it, zb_if, zb_10, zb_00, zb_n5, zb_n2, zb_m1, zb_m3, zb_m9, or_true, true_or, or_false, false_or, e1, h3, x1, x2, e3, k_Course_goOnR hc ho, rs_s, e, zc_rs_re (W := W) (ca := ca)]
    · have e3 : zc_rs hi (rs (hi (ca + 6)) W (hi 31) k) k 31 k = nI w := by rw [zc_rs_o (by omega)]; exact e
      simp only [zr58_0, zr58_1, zr58_4, zr58_7, zr58_8, zr58_10, zr58_11, zr58_14, zr58_17, zr58_20, zr58_21, zr58_24, zr58_25, zr58_28, zr58_29, zr58_32, zr58_35, zr58_36, zr58_37, zr58_40, zr58_43, zr58_46, zs_x0 N, zh_x0 ca cb cs, hc.1, zq_kill_int, zq_kill_ref, zq_kill_ret, zq_kill_null, zq_kill_long, zq_rf_some, zq_rf_none, true_and, and_true, true_implies, not_true_eq_false, not_false_eq_true, false_implies, Bool.true_eq_false, Bool.false_eq_true, nI_1, zb_i0, zb_i1, zb_i2, Option.toList_some, Option.toList_none, List.cons_append, List.nil_append, true_or, or_true, implies_true, zb_it, zb_if, zb_10, zb_00, zb_n5, zb_n2, zb_m1, zb_m3, zb_m9, or_true, true_or, or_false, false_or, e1, h3, x1, x2, e3, k_Course_goOn hc ho (by omega) e2 hW hw, rs_s, e, zc_rs_go hca hW hw]
  have h3 : (nI n < nI n) = False := eq_false (nI_nlt (Nat.le_refl _) (by omega))
  have e1 : zc_rs hi (rs (hi (ca + 6)) W (hi 31) n) n 30 1 = nI n := by rw [zc_rs_o (by omega)]; exact h30
  simp only [zr58_0, zr58_1, zr58_4, zr58_7, zr58_8, zr58_10, zr58_11, zr58_14, zr58_17, zr58_20, zr58_21, zr58_24, zr58_25, zr58_28, zr58_29, zr58_32, zr58_35, zr58_36, zr58_37, zr58_40, zr58_43, zr58_46, zs_x0 N, zh_x0 ca cb cs, zq_kill_int, zq_kill_ref, zq_kill_ret, zq_kill_null, zq_kill_long, zq_rf_some, zq_rf_none, true_and, and_true, true_implies, not_true_eq_false, not_false_eq_true, false_implies, Bool.true_eq_false, Bool.false_eq_true, nI_1, zb_i0, zb_i1, zb_i2, Option.toList_some, Option.toList_none, List.cons_append, List.nil_append, true_or, or_true, implies_true, zb_it, zb_if, zb_10, zb_00, zb_n5, zb_n2, zb_m1, zb_m3, zb_m9, or_true, true_or, or_false, false_or, k_Course_begin]
  refine Eq.trans loop ?_
  rw [zr58_9]
  simp only [zr58_0, zr58_1, zr58_4, zr58_7, zr58_8, zr58_10, zr58_11, zr58_14, zr58_17, zr58_20, zr58_21, zr58_24, zr58_25, zr58_28, zr58_29, zr58_32, zr58_35, zr58_36, zr58_37, zr58_40, zr58_43, zr58_46, zs_x0 N, zh_x0 ca cb cs, zq_kill_int, zq_kill_ref, zq_kill_ret, zq_kill_null, zq_kill_long, zq_rf_some, zq_rf_none, true_and, and_true, true_implies, not_true_eq_false, not_false_eq_true, false_implies, Bool.true_eq_false, Bool.false_eq_true, nI_1, zb_i0, zb_i1, zb_i2, Option.toList_some, Option.toList_none, List.cons_append, List.nil_append, true_or, or_true, implies_true, zb_it, zb_if, zb_10, zb_00, zb_n5, zb_n2, zb_m1, zb_m3, zb_m9, or_true, true_or, or_false, false_or, e1, h3]
theorem k_Strip_takeFrom {a p b q T T2 : Nat} (hsp : zq_Sp (zq_SG N) (zq_HR ca cb cs) a p T) (hb : zq_aW (zq_SG N) q) (hb2 : zq_lS (zq_SG N) q) (hb3 : zq_ln (zq_SG N) q = T2) (hn : n ≤ T) (hn2 : n ≤ T2) (hT : T ≤ 1000) (hT2 : T2 ≤ 1000) : zq_P d 60 0 [.ref a, .ref q, .int (nI n)] [] (zq_SG N, hi, hl, zq_HR ca cb cs) Q = Q none (zq_SG N, zq_u (zq_w hi p (va_cpy (hi q) (hi p) 0 0 n)) a 1 (nI n), hl, zq_HR ca cb cs) := by
  unfold zq_Sp at hsp
  have q1 : (nI n < 0) = False := eq_false (nI_pos (by omega))
  have q2 : (nI T < nI n) = False := eq_false (nI_nlt hn (by omega))
  have q3 : (nI T2 < nI n) = False := eq_false (nI_nlt hn2 (by omega))
  have q4 : (nI n).toNatClampNeg = n := zb_cl (by omega)
  have q5 : (0 : Int32).toNatClampNeg = 0 := rfl
  have q6 : (0 + n ≤ T) = True := eq_true (by omega)
  have q7 : (0 + n ≤ T2) = True := eq_true (by omega)
  simp only [zr60_0, zr60_1, zr60_4, zr60_5, zr60_6, zr60_9, zr60_10, zr60_13, zr60_14, zr60_15, zr60_16, zr60_19, zr60_20, zr60_21, zr60_22, zr60_23, zr60_26, zr60_27, zr60_28, zr60_31, zr60_32, zr60_33, zr60_36, hsp, hb, hb2, hb3, zq_kill_int, zq_kill_ref, zq_kill_ret, zq_kill_null, zq_kill_long, zq_rf_some, zq_rf_none, true_and, and_true, true_implies, not_true_eq_false, not_false_eq_true, false_implies, Bool.true_eq_false, Bool.false_eq_true, nI_1, zb_i0, zb_i1, zb_i2, Option.toList_some, Option.toList_none, List.cons_append, List.nil_append, true_or, or_true, implies_true, zb_it, zb_if, zb_10, zb_00, zb_n5, zb_n2, zb_m1, zb_m3, zb_m9, or_true, true_or, or_false, false_or, q1, q2, q3, q4, q5, q6, q7]
end Z37
section Z37b
variable {N : Nat} {x z : Int32}
theorem p_undo : zq_pair N 57 156 [.ref 0, .int x, .retAddr 0] [.ref 60, .int x, .retAddr 0] := by
  intro hi hl ca cb cs W P D h
  have hca := h.court
  have hct := h.2.2.2.2.2.1
  obtain ⟨⟨w1, w2, w3, w4, w5, w6, -⟩, -, wa⟩ := id hct
  obtain ⟨⟨d0, d1, d2, d3, d4, d5⟩, hdd, ⟨c1, c2, c3, c4⟩, ⟨m1, m2, m3⟩, nn, kk⟩ := id h.2.2.2.2.2.2
  by_cases hx : ¬ x < 0 ∧ ¬ nI D < x
  · obtain ⟨n, hn, rfl⟩ := nI_of hx.1
    have hnD : n ≤ D := by
      have := hx.2
      rw [zb_lt (by omega) (by omega)] at this
      omega
    have hddn : dd_ok W (hi 31) n := fun i hi' => hdd i (by omega)
    have rsE : rs (hi (ca + 6)) W (hi 31) n = rs (zm_tr hi) W (hi 31) n := rs_cong w1 (fun _ _ => rfl) (fun w hw => (wa w hw).2.2.2.1) hddn
    have c10 : zq_u hi 30 1 (nI n) ca 10 = nI W := by rw [zq_u_ne (by omega)]; exact w3
    have c30 : zq_u hi 30 1 (nI n) 30 1 = nI n := zq_u_eq
    have c31 : zq_u hi 30 1 (nI n) 31 = hi 31 := zq_u_ne (by omega)
    have c6 : zq_u hi 30 1 (nI n) (ca + 6) = hi (ca + 6) := zq_u_ne (by omega)
    generalize hh : zc_rs (zq_u hi 30 1 (nI n)) (rs (zm_tr hi) W (hi 31) n) n = hi1
    have o1 : ∀ a, a ≠ 30 → (a < 32 ∨ 34 < a) → hi1 a = hi a := fun a a1 a2 => by rw [← hh, zc_rs_o a2, zq_u_ne a1]
    generalize hh2 : (if n < D then zq_u (zm_rd hi1 76 (17 * n)) 60 30 (nI n) else hi1) = hi2
    have s76 : 17 * n + 17 ≤ 680 ∨ n = 40 := by omega
    refine ⟨.int (nI (D - n)), hi1, hl, ca, cb, cs, hi2, hl, W, P, n, fun Q => ?_, fun Q => ?_, ?_⟩
    · have r := fun Q => k_EF_replay (Q := Q) (N := N) (cb := cb) (cs := cs) (d := 55) (hl := hl) (hi := zq_u hi 30 1 (nI n)) hca c10 w1 (show n ≤ 40 by omega) c30 (by rw [c31]; exact hddn)
      rw [c31, c6, rsE, hh] at r
      simp only [zr57_0, zr57_1, zr57_4, zr57_5, zr57_6, zr57_9, zr57_12, zr57_15, zr57_16, zr57_17, zr57_18, zr57_21, zr57_24, zr57_25, zr57_26, zr57_27, zr57_28, zr57_31, zr57_32, zr57_35, zr57_36, zr57_39, zr57_40, zs_x0 N, zh_x0 ca cb cs, zq_kill_int, zq_kill_ref, zq_kill_ret, zq_kill_null, zq_kill_long, zq_rf_some, zq_rf_none, true_and, and_true, true_implies, not_true_eq_false, not_false_eq_true, false_implies, Bool.true_eq_false, Bool.false_eq_true, nI_1, zb_i0, zb_i1, zb_i2, Option.toList_some, Option.toList_none, List.cons_append, List.nil_append, true_or, or_true, implies_true, zb_it, zb_if, zb_10, zb_00, zb_n5, zb_n2, zb_m1, zb_m3, zb_m9, or_true, true_or, or_false, false_or, d2, hx, pk_sub hnD, r]
    · have e30 : hi1 60 30 = nI D := by rw [o1 60 (by omega) (by omega)]; exact d3
      have hin : zm_in (nI n) 0 (nI D) = true := by unfold zm_in; rw [decide_eq_true_eq]; exact hx
      have e17 : (17 : Int32) * nI n = nI (17 * n) := pk_mul 17 n
      by_cases hlt : n < D
      · rw [if_pos hlt] at hh2
        have hg : (0 < nI (D - n)) = True := eq_true (nI_lt (a := 0) (by omega) (by omega))
        have g1 : zq_aS (zq_SG N) 76 := by simp only [zs_m0 N, zs_m1 N, zs_m2 N]
        have g2 : zq_ln (zq_SG N) 76 = 680 := by simp only [zs_m0 N, zs_m1 N, zs_m2 N]
        simp only [zr156_0, zr156_1, zr156_2, zr156_3, zr156_6, zr156_9, zr156_12, zr156_13, zr156_14, zr156_15, zr156_18, zr156_19, zr156_20, zr156_21, zr156_22, zr156_25, zr156_26, zr156_27, zr156_30, zr156_32, zr156_33, zr156_34, zr156_37, zr156_38, zr156_39, zr156_42, zr156_43, zs_m0 N, zs_m1 N, zs_m2 N, zh_m0 ca cb cs, zq_kill_int, zq_kill_ref, zq_kill_ret, zq_kill_null, zq_kill_long, zq_rf_some, zq_rf_none, true_and, and_true, true_implies, not_true_eq_false, not_false_eq_true, false_implies, Bool.true_eq_false, Bool.false_eq_true, nI_1, zb_i0, zb_i1, zb_i2, Option.toList_some, Option.toList_none, List.cons_append, List.nil_append, true_or, or_true, implies_true, zb_it, zb_if, zb_10, zb_00, zb_n5, zb_n2, zb_m1, zb_m3, zb_m9, or_true, true_or, or_false, false_or, e30, k_M_in, hin, pk_sub hnD, hg, e17, k_M_read g1 g2 (show 680 ≤ 3000 by omega) (show 17 * n + 17 ≤ 680 by omega) (by omega) (by omega) (by omega), hh2]
      · rw [if_neg hlt] at hh2
        have hg : (0 < nI (D - n)) = False := eq_false (by rw [show D - n = 0 by omega]; decide)
        rw [← hh2]
        simp only [zr156_0, zr156_1, zr156_2, zr156_3, zr156_6, zr156_9, zr156_12, zr156_13, zr156_14, zr156_15, zr156_18, zr156_19, zr156_20, zr156_21, zr156_22, zr156_25, zr156_26, zr156_27, zr156_30, zr156_32, zr156_33, zr156_34, zr156_37, zr156_38, zr156_39, zr156_42, zr156_43, zs_m0 N, zs_m1 N, zs_m2 N, zh_m0 ca cb cs, zq_kill_int, zq_kill_ref, zq_kill_ret, zq_kill_null, zq_kill_long, zq_rf_some, zq_rf_none, true_and, and_true, true_implies, not_true_eq_false, not_false_eq_true, false_implies, Bool.true_eq_false, Bool.false_eq_true, nI_1, zb_i0, zb_i1, zb_i2, Option.toList_some, Option.toList_none, List.cons_append, List.nil_append, true_or, or_true, implies_true, zb_it, zb_if, zb_10, zb_00, zb_n5, zb_n2, zb_m1, zb_m3, zb_m9, or_true, true_or, or_false, false_or, e30, k_M_in, hin, pk_sub hnD, hg]
    · have lo : ∀ a, a < 60 → hi2 a = hi1 a := fun a ha => by
        rw [← hh2]
        split
        · unfold zm_rd zm_rk
          rw [zq_u_ne (by omega), zq_w_ne (by omega), zq_w_ne (by omega), zq_u_ne (by omega), zq_u_ne (by omega), zq_u_ne (by omega)]
        · rfl
      have up : ∀ a, 60 < a → a ≠ 74 → a ≠ 75 → hi2 a = hi a := fun a ha a4 a5 => by
        rw [← hh2]
        split
        · unfold zm_rd zm_rk
          rw [zq_u_ne (by omega), zq_w_ne (by omega), zq_w_ne (by omega), zq_u_ne (by omega), zq_u_ne (by omega), zq_u_ne (by omega), o1 a (by omega) (by omega)]
        · rw [o1 a (by omega) (by omega)]
      have f60 : ∀ f, f ≠ 25 ∧ f ≠ 26 ∧ f ≠ 27 ∧ f ≠ 30 → hi2 60 f = hi 60 f := fun f hf => by
        rw [← hh2]
        split
        · unfold zm_rd zm_rk
          rw [zq_u_kn (by omega), zq_w_ne (by omega), zq_w_ne (by omega), zq_u_kn (by omega), zq_u_kn (by omega), zq_u_kn (by omega), o1 60 (by omega) (by omega)]
        · rw [o1 60 (by omega) (by omega)]
      have i76 : hi1 76 = hi 76 := o1 76 (by omega) (by omega)
      have mm : hi2 60 30 = nI n ∧ hi2 60 25 = nI n ∧ eqW W (mq hi2) (rs (zm_tr hi) W (hi 31) n) := by
        rw [← hh2]
        split
        · rename_i hlt
          obtain ⟨n1, n2, n3, n4⟩ := nn n hlt
          unfold zm_rd zm_rk mq eqW
          rw [i76]
          refine ⟨zq_u_eq, ?_, ?_, ?_, fun w hw => ⟨?_, ?_⟩⟩
          · rw [zq_u_kn (by omega), zq_w_ne (by omega), zq_w_ne (by omega), zq_u_kn (by omega), zq_u_kn (by omega), zq_u_eq]; exact n1
          · dsimp only
            rw [zq_u_kn (by omega), zq_w_ne (by omega), zq_w_ne (by omega), zq_u_kn (by omega), zq_u_eq]; exact n2
          · dsimp only
            rw [zq_u_kn (by omega), zq_w_ne (by omega), zq_w_ne (by omega), zq_u_eq]; exact n3
          · dsimp only
            rw [zq_u_ne (by omega), zq_w_ne (by omega), zq_w_eq, if_pos (by omega)]; exact (n4 w hw).1
          · dsimp only
            rw [zq_u_ne (by omega), zq_w_eq, if_pos (by omega)]; exact (n4 w hw).2
        · have e : n = D := by omega
          subst e
          refine ⟨?_, ?_, ?_, ?_, fun w hw => ?_⟩
          · rw [o1 60 (by omega) (by omega)]; exact d3
          · rw [o1 60 (by omega) (by omega)]; exact d5
          · show hi1 60 26 = _; rw [o1 60 (by omega) (by omega)]; exact m1
          · show hi1 60 27 = _; rw [o1 60 (by omega) (by omega)]; exact m2
          · show hi1 74 w = _ ∧ hi1 75 w = _; rw [o1 74 (by omega) (by omega), o1 75 (by omega) (by omega)]; exact m3 w hw
      have kl : ∀ a, a < 60 → a ≠ 30 → (a < 32 ∨ 34 < a) → hi2 a = hi a := fun a a1 a2 a3 => by rw [lo a a1, o1 a a2 a3]
      obtain ⟨s1, s2, ⟨t1, t2, t3, t4, t5⟩, s4, s5, s6, s7⟩ := h
      have ttr : zm_tr hi2 = zm_tr hi := zm_tr_fr (up _ (by omega) (by omega) (by omega)) (up _ (by omega) (by omega) (by omega))
      refine ⟨s1, s2, ⟨?_, t2, t3, ?_, fun f hf => ?_⟩, ?_, ?_, ?_, ?_⟩
      · rw [kl 0 (by omega) (by omega) (by omega), f60 2 (by omega)]; exact t1
      · rw [kl 0 (by omega) (by omega) (by omega), f60 0 (by omega)]; exact t4
      · rw [kl 35 (by omega) (by omega) (by omega), up 61 (by omega) (by omega) (by omega)]; exact t5 f hf
      · exact sm_st_fr s4 (fun r hr => ⟨by rw [kl _ (by omega) (by omega) (by omega)], kl _ (by omega) (by omega) (by omega)⟩) (up _ (by omega) (by omega) (by omega)) (up _ (by omega) (by omega) (by omega))
      · exact sm_st_fr s5 (fun r hr => ⟨by rw [kl _ (by omega) (by omega) (by omega)], kl _ (by omega) (by omega) (by omega)⟩) (up _ (by omega) (by omega) (by omega)) (up _ (by omega) (by omega) (by omega))
      · exact sm_ct_fr s6 (fun a ha => by rcases ha with ha | ha; exact kl a (by omega) (by omega) (by omega); exact up a (by omega) (by omega) (by omega)) ⟨f60 _ (by omega), f60 _ (by omega), f60 _ (by omega)⟩
      · have i31 : hi2 31 = hi 31 := kl 31 (by omega) (by omega) (by omega)
        have i32 : ∀ f, hi2 32 f = zc_rs (zq_u hi 30 1 (nI n)) (rs (zm_tr hi) W (hi 31) n) n 32 f := fun f => by rw [lo 32 (by omega), ← hh]
        unfold sm_dd
        rw [ttr, i31]
        refine ⟨⟨by omega, fun e => by have := d1 e; omega, ?_, mm.1, ?_, mm.2.1⟩, hddn, ⟨?_, ?_, ?_, fun w hw => ⟨?_, ?_⟩⟩, mm.2.2, fun i hi' => ?_, fun k hk => ?_⟩
        · rw [lo 30 (by omega), ← hh, zc_rs_o (by omega)]; exact zq_u_eq
        · rw [i32, zc_rs_32]; rfl
        · rw [i32, zc_rs_32]; rfl
        · rw [i32, zc_rs_32]; rfl
        · rw [i32, zc_rs_32]; rfl
        · rw [lo 33 (by omega), ← hh, zc_rs_33]; exact if_pos (by omega)
        · rw [lo 34 (by omega), ← hh, zc_rs_34]; exact if_pos (by omega)
        · unfold sm_note
          rw [up 76 (by omega) (by omega) (by omega)]
          exact nn i (by omega)
        · unfold sm_note
          rw [kl (24 + 2 * k) (by omega) (by omega) (by omega), kl (25 + 2 * k) (by omega) (by omega) (by omega), up 77 (by omega) (by omega) (by omega), up 78 (by omega) (by omega) (by omega)]
          exact kk k hk
  · refine ⟨.int (-1), hi, hl, ca, cb, cs, hi, hl, W, P, D, fun Q => ?_, fun Q => ?_, h⟩
    · simp only [zr57_0, zr57_1, zr57_4, zr57_5, zr57_6, zr57_9, zr57_12, zr57_15, zr57_16, zr57_17, zr57_18, zr57_21, zr57_24, zr57_25, zr57_26, zr57_27, zr57_28, zr57_31, zr57_32, zr57_35, zr57_36, zr57_39, zr57_40, zs_x0 N, zh_x0 ca cb cs, zq_kill_int, zq_kill_ref, zq_kill_ret, zq_kill_null, zq_kill_long, zq_rf_some, zq_rf_none, true_and, and_true, true_implies, not_true_eq_false, not_false_eq_true, false_implies, Bool.true_eq_false, Bool.false_eq_true, nI_1, zb_i0, zb_i1, zb_i2, Option.toList_some, Option.toList_none, List.cons_append, List.nil_append, true_or, or_true, implies_true, zb_it, zb_if, zb_10, zb_00, zb_n5, zb_n2, zb_m1, zb_m3, zb_m9, or_true, true_or, or_false, false_or, d2]
      by_cases q1 : x < 0
      · simp [q1]
      · by_cases q2 : nI D < x
        · simp [q1, q2]
        · exact absurd ⟨q1, q2⟩ hx
    · simp only [zr156_0, zr156_1, zr156_2, zr156_3, zr156_6, zr156_9, zr156_12, zr156_13, zr156_14, zr156_15, zr156_18, zr156_19, zr156_20, zr156_21, zr156_22, zr156_25, zr156_26, zr156_27, zr156_30, zr156_32, zr156_33, zr156_34, zr156_37, zr156_38, zr156_39, zr156_42, zr156_43, zs_m0 N, zs_m1 N, zs_m2 N, zh_m0 ca cb cs, zq_kill_int, zq_kill_ref, zq_kill_ret, zq_kill_null, zq_kill_long, zq_rf_some, zq_rf_none, true_and, and_true, true_implies, not_true_eq_false, not_false_eq_true, false_implies, Bool.true_eq_false, Bool.false_eq_true, nI_1, zb_i0, zb_i1, zb_i2, Option.toList_some, Option.toList_none, List.cons_append, List.nil_append, true_or, or_true, implies_true, zb_it, zb_if, zb_10, zb_00, zb_n5, zb_n2, zb_m1, zb_m3, zb_m9, or_true, true_or, or_false, false_or, d3, k_M_in, zm_in, hx, decide_false]
end Z37b
