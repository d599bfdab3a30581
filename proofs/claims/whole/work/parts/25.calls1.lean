/-! Calls that ask: asked, upper, lower, finding, findings, can, away -/
section Z25
variable {N : Nat} {x z : Int32}
theorem p_asked : zq_pair N 99 197 [.ref 0] [.ref 60] := by
  intro hi hl ca cb cs W P D h
  refine ⟨.int (hi 0 9), hi, hl, ca, cb, cs, hi, hl, W, P, D, fun Q => ?_, fun Q => ?_, h⟩
  · simp only [zr99_0, zr99_1, zr99_4, zs_x0 N, zh_x0 ca cb cs, zq_kill_int, zq_kill_ref, zq_kill_ret, zq_kill_null, zq_kill_long, zq_rf_some, zq_rf_none, true_and, and_true, true_implies, not_true_eq_false, not_false_eq_true, false_implies, Bool.true_eq_false, Bool.false_eq_true, nI_1, zb_i0, zb_i1, zb_i2, Option.toList_some, Option.toList_none, List.cons_append, List.nil_append, true_or, or_true, implies_true]
  · simp only [zr197_0, zr197_1, zr197_4, zs_m0 N, zs_m1 N, zs_m2 N, zh_m0 ca cb cs, zq_kill_int, zq_kill_ref, zq_kill_ret, zq_kill_null, zq_kill_long, zq_rf_some, zq_rf_none, true_and, and_true, true_implies, not_true_eq_false, not_false_eq_true, false_implies, Bool.true_eq_false, Bool.false_eq_true, nI_1, zb_i0, zb_i1, zb_i2, Option.toList_some, Option.toList_none, List.cons_append, List.nil_append, true_or, or_true, implies_true, h.2.2.1.1]
theorem p_finding : zq_pair N 105 203 [.ref 0] [.ref 60] := by
  intro hi hl ca cb cs W P D h
  refine ⟨.int (hi 0 12), hi, hl, ca, cb, cs, hi, hl, W, P, D, fun Q => ?_, fun Q => ?_, h⟩
  · simp only [zr105_0, zr105_1, zr105_4, zs_x0 N, zh_x0 ca cb cs, zq_kill_int, zq_kill_ref, zq_kill_ret, zq_kill_null, zq_kill_long, zq_rf_some, zq_rf_none, true_and, and_true, true_implies, not_true_eq_false, not_false_eq_true, false_implies, Bool.true_eq_false, Bool.false_eq_true, nI_1, zb_i0, zb_i1, zb_i2, Option.toList_some, Option.toList_none, List.cons_append, List.nil_append, true_or, or_true, implies_true]
  · simp only [zr203_0, zr203_1, zr203_4, zs_m0 N, zs_m1 N, zs_m2 N, zh_m0 ca cb cs, zq_kill_int, zq_kill_ref, zq_kill_ret, zq_kill_null, zq_kill_long, zq_rf_some, zq_rf_none, true_and, and_true, true_implies, not_true_eq_false, not_false_eq_true, false_implies, Bool.true_eq_false, Bool.false_eq_true, nI_1, zb_i0, zb_i1, zb_i2, Option.toList_some, Option.toList_none, List.cons_append, List.nil_append, true_or, or_true, implies_true, h.2.2.1.2.2.2.1]
theorem p_upper : zq_pair N 100 198 [.ref 0] [.ref 60] := by
  intro hi hl ca cb cs W P D h
  refine ⟨.long (hl 0 10), hi, hl, ca, cb, cs, hi, hl, W, P, D, fun Q => ?_, fun Q => ?_, h⟩
  · simp only [zr100_0, zr100_1, zr100_4, zs_x0 N, zh_x0 ca cb cs, zq_kill_int, zq_kill_ref, zq_kill_ret, zq_kill_null, zq_kill_long, zq_rf_some, zq_rf_none, true_and, and_true, true_implies, not_true_eq_false, not_false_eq_true, false_implies, Bool.true_eq_false, Bool.false_eq_true, nI_1, zb_i0, zb_i1, zb_i2, Option.toList_some, Option.toList_none, List.cons_append, List.nil_append, true_or, or_true, implies_true]
  · simp only [zr198_0, zr198_1, zr198_4, zs_m0 N, zs_m1 N, zs_m2 N, zh_m0 ca cb cs, zq_kill_int, zq_kill_ref, zq_kill_ret, zq_kill_null, zq_kill_long, zq_rf_some, zq_rf_none, true_and, and_true, true_implies, not_true_eq_false, not_false_eq_true, false_implies, Bool.true_eq_false, Bool.false_eq_true, nI_1, zb_i0, zb_i1, zb_i2, Option.toList_some, Option.toList_none, List.cons_append, List.nil_append, true_or, or_true, implies_true, h.2.2.1.2.1]
theorem p_lower : zq_pair N 101 199 [.ref 0] [.ref 60] := by
  intro hi hl ca cb cs W P D h
  refine ⟨.long (hl 0 11), hi, hl, ca, cb, cs, hi, hl, W, P, D, fun Q => ?_, fun Q => ?_, h⟩
  · simp only [zr101_0, zr101_1, zr101_4, zs_x0 N, zh_x0 ca cb cs, zq_kill_int, zq_kill_ref, zq_kill_ret, zq_kill_null, zq_kill_long, zq_rf_some, zq_rf_none, true_and, and_true, true_implies, not_true_eq_false, not_false_eq_true, false_implies, Bool.true_eq_false, Bool.false_eq_true, nI_1, zb_i0, zb_i1, zb_i2, Option.toList_some, Option.toList_none, List.cons_append, List.nil_append, true_or, or_true, implies_true]
  · simp only [zr199_0, zr199_1, zr199_4, zs_m0 N, zs_m1 N, zs_m2 N, zh_m0 ca cb cs, zq_kill_int, zq_kill_ref, zq_kill_ret, zq_kill_null, zq_kill_long, zq_rf_some, zq_rf_none, true_and, and_true, true_implies, not_true_eq_false, not_false_eq_true, false_implies, Bool.true_eq_false, Bool.false_eq_true, nI_1, zb_i0, zb_i1, zb_i2, Option.toList_some, Option.toList_none, List.cons_append, List.nil_append, true_or, or_true, implies_true, h.2.2.1.2.2.1]
/-- a number in bounds -/
def zm_in (v a b : Int32) : Bool := decide (¬ v < a ∧ ¬ b < v)
theorem k_M_in {d : Nat} {v a b : Int32} {g : zq_G} {Q : Option Value → zq_G → Prop} : zq_P d 112 0 [.int v, .int a, .int b] [] g Q = Q (some (.int (zb_i (zm_in v a b)))) g := by
  obtain ⟨S, hi, hl, hr⟩ := g
  simp only [zr112_0, zr112_1, zr112_2, zr112_5, zr112_6, zr112_7, zr112_10, zr112_11, zr112_14, zr112_15, zm_in, zb_i, decide_eq_true_eq]
  by_cases h0 : v < a
  · simp [h0]
  · by_cases h1 : b < v <;> simp [h0, h1]
theorem p_findings : zq_pair N 106 204 [.ref 0, .int x] [.ref 60, .int x] := by
  intro hi hl ca cb cs W P D h
  by_cases hx : ¬ x < 1 ∧ ¬ 5 < x
  · obtain ⟨f, hf, rfl⟩ := nI_of2 (x := x) (M := 5) (n := 5) (by decide) (fun q => hx.1 (Int32.lt_trans q (by decide))) (Int32.not_lt.mp hx.2)
    have h1 : zq_xS (nI f) 6 := zb_x (by omega) (by omega)
    have h2 : (nI f).toNatClampNeg = f := zb_cl (by omega)
    refine ⟨.int (hi 35 f), hi, hl, ca, cb, cs, hi, hl, W, P, D, fun Q => ?_, fun Q => ?_, h⟩
    · simp only [zr106_0, zr106_1, zr106_2, zr106_5, zr106_6, zr106_7, zr106_10, zr106_11, zr106_12, zr106_13, zr106_16, zr106_17, zr106_18, zs_x0 N, zh_x0 ca cb cs, zq_kill_int, zq_kill_ref, zq_kill_ret, zq_kill_null, zq_kill_long, zq_rf_some, zq_rf_none, true_and, and_true, true_implies, not_true_eq_false, not_false_eq_true, false_implies, Bool.true_eq_false, Bool.false_eq_true, nI_1, zb_i0, zb_i1, zb_i2, Option.toList_some, Option.toList_none, List.cons_append, List.nil_append, true_or, or_true, implies_true, hx.1, hx.2, h1, h2]
    · simp only [zr204_0, zr204_1, zr204_2, zr204_3, zr204_6, zr204_9, zr204_10, zr204_13, zr204_14, zr204_15, zr204_18, zr204_19, zs_m0 N, zs_m1 N, zs_m2 N, zh_m0 ca cb cs, zq_kill_int, zq_kill_ref, zq_kill_ret, zq_kill_null, zq_kill_long, zq_rf_some, zq_rf_none, true_and, and_true, true_implies, not_true_eq_false, not_false_eq_true, false_implies, Bool.true_eq_false, Bool.false_eq_true, nI_1, zb_i0, zb_i1, zb_i2, Option.toList_some, Option.toList_none, List.cons_append, List.nil_append, true_or, or_true, implies_true, k_M_in, zm_in, hx.1, hx.2, h1, h2, not_false_eq_true, and_self, decide_true, (h.2.2.1.2.2.2.2 f (by omega))]
  · refine ⟨.int (-1), hi, hl, ca, cb, cs, hi, hl, W, P, D, fun Q => ?_, fun Q => ?_, h⟩
    · simp only [zr106_0, zr106_1, zr106_2, zr106_5, zr106_6, zr106_7, zr106_10, zr106_11, zr106_12, zr106_13, zr106_16, zr106_17, zr106_18, zs_x0 N, zh_x0 ca cb cs, zq_kill_int, zq_kill_ref, zq_kill_ret, zq_kill_null, zq_kill_long, zq_rf_some, zq_rf_none, true_and, and_true, true_implies, not_true_eq_false, not_false_eq_true, false_implies, Bool.true_eq_false, Bool.false_eq_true, nI_1, zb_i0, zb_i1, zb_i2, Option.toList_some, Option.toList_none, List.cons_append, List.nil_append, true_or, or_true, implies_true]
      by_cases q1 : x < 1
      · simp [q1]
      · by_cases q2 : 5 < x
        · simp [q1, q2]
        · exact absurd ⟨q1, q2⟩ hx
    · simp only [zr204_0, zr204_1, zr204_2, zr204_3, zr204_6, zr204_9, zr204_10, zr204_13, zr204_14, zr204_15, zr204_18, zr204_19, zs_m0 N, zs_m1 N, zs_m2 N, zh_m0 ca cb cs, zq_kill_int, zq_kill_ref, zq_kill_ret, zq_kill_null, zq_kill_long, zq_rf_some, zq_rf_none, true_and, and_true, true_implies, not_true_eq_false, not_false_eq_true, false_implies, Bool.true_eq_false, Bool.false_eq_true, nI_1, zb_i0, zb_i1, zb_i2, Option.toList_some, Option.toList_none, List.cons_append, List.nil_append, true_or, or_true, implies_true, k_M_in, zm_in, hx, decide_false]
theorem p_can : zq_pair N 62 167 [.ref 0] [.ref 60] := by
  intro hi hl ca cb cs W P D h
  have hc := zq_Ct_ok (N := N) (ca := ca) (cb := cb) (cs := cs) h.court
  have ho := zq_Co_ok (N := N) (ca := ca) (cb := cb) (cs := cs) (o := 32) (Or.inl rfl)
  have hct := h.2.2.2.2.2.1
  have hco := sm_dd_co hct.1.1 h.2.2.2.2.2.2
  obtain ⟨⟨w1, w2, w3, w4, w5, w6, -⟩, -⟩ := id hct
  have hd : hi 32 2 = hi 60 25 := by rw [hco.1.2.1, hco.1.2.2]
  refine ⟨.int (zb_set (zc_open hi ca 32 (zb_set (zc_away hi ca (hi 32 2)) P)) W), hi, hl, ca, cb, cs, hi, hl, W, P, D, fun Q => ?_, fun Q => ?_, h⟩
  · have hc2 := hc
    unfold zq_Ct at hc2
    simp only [zr62_0, zr62_1, zr62_4, zr43_0, zr43_1, zr43_4, zr43_5, zr43_8, zr43_9, zr43_12, zr43_13, zr43_16, zr43_19, zr43_22, zr43_25, zs_x0 N, zh_x0 ca cb cs, hc2, zq_kill_int, zq_kill_ref, zq_kill_ret, zq_kill_null, zq_kill_long, zq_rf_some, zq_rf_none, true_and, and_true, true_implies, not_true_eq_false, not_false_eq_true, false_implies, Bool.true_eq_false, Bool.false_eq_true, nI_1, zb_i0, zb_i1, zb_i2, Option.toList_some, Option.toList_none, List.cons_append, List.nil_append, true_or, or_true, implies_true, k_Court_awayOn hc w5 w2, k_Course_openWays hc ho w3 w1]
  · rw [sm_aw hct, sm_opens hct hco, hd]
    simp only [zr167_0, zr167_1, zr167_4, zs_m0 N, zs_m1 N, zs_m2 N, zh_m0 ca cb cs, zq_kill_int, zq_kill_ref, zq_kill_ret, zq_kill_null, zq_kill_long, zq_rf_some, zq_rf_none, true_and, and_true, true_implies, not_true_eq_false, not_false_eq_true, false_implies, Bool.true_eq_false, Bool.false_eq_true, nI_1, zb_i0, zb_i1, zb_i2, Option.toList_some, Option.toList_none, List.cons_append, List.nil_append, true_or, or_true, implies_true, k_M_canSet w4 w1 w6 w2 (sm_nz hct)]
end Z25
