/-! Calls that ask of ways: away, way, mark, count -/
section Z26
variable {N : Nat} {x z : Int32}
theorem p_away : zq_pair N 52 166 [.ref 0, .int x] [.ref 60, .int x] := by
  intro hi hl ca cb cs W P D h
  have hc := zq_Ct_ok (N := N) (ca := ca) (cb := cb) (cs := cs) h.court
  have hct := h.2.2.2.2.2.1
  obtain ⟨⟨w1, w2, w3, w4, w5, w6, -⟩, -⟩ := id hct
  have hc2 := hc
  unfold zq_Ct at hc2
  by_cases q1 : x < 0
  · refine ⟨.int (-1), hi, hl, ca, cb, cs, hi, hl, W, P, D, fun Q => ?_, fun Q => ?_, h⟩
    · simp only [zr52_0, zr52_1, zr52_4, zr52_5, zr52_8, zr52_11, zr52_12, zr52_13, zr52_14, zr52_17, zr52_18, zr52_21, zq_kill_int, zq_kill_ref, zq_kill_ret, zq_kill_null, zq_kill_long, zq_rf_some, zq_rf_none, true_and, and_true, true_implies, not_true_eq_false, not_false_eq_true, false_implies, Bool.true_eq_false, Bool.false_eq_true, nI_1, zb_i0, zb_i1, zb_i2, Option.toList_some, Option.toList_none, List.cons_append, List.nil_append, true_or, or_true, implies_true, q1]
    · simp only [zr166_0, zr166_1, zr166_2, zr166_5, zr166_8, zr166_11, zr166_12, zr166_13, zr166_16, zr166_19, zr166_20, zs_m0 N, zs_m1 N, zs_m2 N, zh_m0 ca cb cs, zq_kill_int, zq_kill_ref, zq_kill_ret, zq_kill_null, zq_kill_long, zq_rf_some, zq_rf_none, true_and, and_true, true_implies, not_true_eq_false, not_false_eq_true, false_implies, Bool.true_eq_false, Bool.false_eq_true, nI_1, zb_i0, zb_i1, zb_i2, Option.toList_some, Option.toList_none, List.cons_append, List.nil_append, true_or, or_true, implies_true, k_M_in, zm_in, q1, not_true_eq_false, false_and, decide_false]
  · by_cases q2 : 999 < x
    · refine ⟨.int (-1), hi, hl, ca, cb, cs, hi, hl, W, P, D, fun Q => ?_, fun Q => ?_, h⟩
      · simp only [zr52_0, zr52_1, zr52_4, zr52_5, zr52_8, zr52_11, zr52_12, zr52_13, zr52_14, zr52_17, zr52_18, zr52_21, zq_kill_int, zq_kill_ref, zq_kill_ret, zq_kill_null, zq_kill_long, zq_rf_some, zq_rf_none, true_and, and_true, true_implies, not_true_eq_false, not_false_eq_true, false_implies, Bool.true_eq_false, Bool.false_eq_true, nI_1, zb_i0, zb_i1, zb_i2, Option.toList_some, Option.toList_none, List.cons_append, List.nil_append, true_or, or_true, implies_true, q1, q2]
      · simp only [zr166_0, zr166_1, zr166_2, zr166_5, zr166_8, zr166_11, zr166_12, zr166_13, zr166_16, zr166_19, zr166_20, zs_m0 N, zs_m1 N, zs_m2 N, zh_m0 ca cb cs, zq_kill_int, zq_kill_ref, zq_kill_ret, zq_kill_null, zq_kill_long, zq_rf_some, zq_rf_none, true_and, and_true, true_implies, not_true_eq_false, not_false_eq_true, false_implies, Bool.true_eq_false, Bool.false_eq_true, nI_1, zb_i0, zb_i1, zb_i2, Option.toList_some, Option.toList_none, List.cons_append, List.nil_append, true_or, or_true, implies_true, k_M_in, zm_in, q2, not_true_eq_false, and_false, decide_false]
    · refine ⟨.int (zb_set (zc_away hi ca x) P), hi, hl, ca, cb, cs, hi, hl, W, P, D, fun Q => ?_, fun Q => ?_, h⟩
      · simp only [zr52_0, zr52_1, zr52_4, zr52_5, zr52_8, zr52_11, zr52_12, zr52_13, zr52_14, zr52_17, zr52_18, zr52_21, zs_x0 N, zh_x0 ca cb cs, hc2, zq_kill_int, zq_kill_ref, zq_kill_ret, zq_kill_null, zq_kill_long, zq_rf_some, zq_rf_none, true_and, and_true, true_implies, not_true_eq_false, not_false_eq_true, false_implies, Bool.true_eq_false, Bool.false_eq_true, nI_1, zb_i0, zb_i1, zb_i2, Option.toList_some, Option.toList_none, List.cons_append, List.nil_append, true_or, or_true, implies_true, q1, q2, k_Court_awayOn hc w5 w2]
      · rw [sm_aw hct]
        simp only [zr166_0, zr166_1, zr166_2, zr166_5, zr166_8, zr166_11, zr166_12, zr166_13, zr166_16, zr166_19, zr166_20, zs_m0 N, zs_m1 N, zs_m2 N, zh_m0 ca cb cs, zq_kill_int, zq_kill_ref, zq_kill_ret, zq_kill_null, zq_kill_long, zq_rf_some, zq_rf_none, true_and, and_true, true_implies, not_true_eq_false, not_false_eq_true, false_implies, Bool.true_eq_false, Bool.false_eq_true, nI_1, zb_i0, zb_i1, zb_i2, Option.toList_some, Option.toList_none, List.cons_append, List.nil_append, true_or, or_true, implies_true, k_M_in, zm_in, q1, q2, not_false_eq_true, and_self, decide_true, k_M_awayOn w6 w2 (sm_nz hct)]
/-- a bit of a set -/
theorem zb_bit {p : Nat → Bool} {W k : Nat} (hW : W ≤ 7) (hk : k < W) : zb_set p W >>> (nI k &&& 31) &&& 1 = zb_i (p k) := by
  have key : ∀ b0 b1 b2 b3 b4 b5 b6 : Bool, ∀ W, W ≤ 7 → ∀ k, k < W → zb_set (fun i => match i with | 0 => b0 | 1 => b1 | 2 => b2 | 3 => b3 | 4 => b4 | 5 => b5 | _ => b6) W >>> (nI k &&& 31) &&& 1 = zb_i ((fun i => match i with | 0 => b0 | 1 => b1 | 2 => b2 | 3 => b3 | 4 => b4 | 5 => b5 | _ => b6) k) := by
    decide +kernel
  have h := key (p 0) (p 1) (p 2) (p 3) (p 4) (p 5) (p 6) W hW k hk
  have e : ∀ j, j < 7 → (fun i => match i with | 0 => p 0 | 1 => p 1 | 2 => p 2 | 3 => p 3 | 4 => p 4 | 5 => p 5 | _ => p 6) j = p j := by
    intro j hj
    match j, hj with
    | 0, _ => rfl
    | 1, _ => rfl
    | 2, _ => rfl
    | 3, _ => rfl
    | 4, _ => rfl
    | 5, _ => rfl
    | 6, _ => rfl
  rw [e k (by omega)] at h
  rw [← h]
  congr 2
  exact zb_set_cong fun j hj => (e j (by omega)).symm
end Z26
