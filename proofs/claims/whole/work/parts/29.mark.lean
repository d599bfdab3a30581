/-! mark; how many bits -/
def pcn (s : Nat) : Nat := s % 2 + s / 2 % 2 + s / 4 % 2 + s / 8 % 2 + s / 16 % 2 + s / 32 % 2 + s / 64 % 2
def bfold (x : Int32) : Nat → Int32
  | 0 => 0
  | k + 1 => bfold x k + (x >>> (nI k &&& 31) &&& 1)
theorem bfold_s (x : Int32) (k : Nat) : bfold x (k + 1) = bfold x k + (x >>> (nI k &&& 31) &&& 1) := rfl
theorem bfold_n : ∀ s, s < 128 → bfold (nI s) 7 = nI (pcn s) := by decide +kernel
section Z29
variable {N ca cb cs d W P D : Nat} {hi : zq_I} {hl : zq_J} {hr : zq_O} {S : zq_S} {Q : Option Value → zq_G → Prop} {x z : Int32}
theorem k_M_bits {s : Nat} (hs : s < 128) : zq_P d 165 0 [.int (nI s), .retAddr 0, .retAddr 0] [] (S, hi, hl, hr) Q = Q (some (.int (nI (pcn s)))) (S, hi, hl, hr) := by
  have loop : zq_P d 165 4 [.int (nI s), .int (bfold (nI s) 0), .int (nI 0)] [] (S, hi, hl, hr) Q = zq_P d 165 4 [.int (nI s), .int (bfold (nI s) 7), .int (nI 7)] [] (S, hi, hl, hr) Q := by
    refine zq_loop (f := fun k => zq_P d 165 4 [.int (nI s), .int (bfold (nI s) k), .int (nI k)] [] (S, hi, hl, hr) Q) fun k hk => ?_
    have h3 : (nI k < 7) = True := eq_true ((nI_ltI (b := 7) (by omega) (by omega)).mpr hk)
    rw [zr165_4]
    simp only [zr165_0, zr165_1, zr165_2, zr165_3, zr165_5, zr165_7, zr165_10, zr165_11, zr165_12, zr165_13, zr165_14, zr165_15, zr165_16, zr165_17, zr165_18, zr165_21, zr165_24, zr165_25, h3, zq_kill_int, zq_kill_ref, zq_kill_ret, zq_kill_null, zq_kill_long, zq_rf_some, zq_rf_none, true_and, and_true, true_implies, not_true_eq_false, not_false_eq_true, false_implies, Bool.true_eq_false, Bool.false_eq_true, nI_1, zb_i0, zb_i1, zb_i2, Option.toList_some, Option.toList_none, List.cons_append, List.nil_append, true_or, or_true, implies_true, bfold_s]
  simp only [zr165_0, zr165_1, zr165_2, zr165_3, zr165_5, zr165_7, zr165_10, zr165_11, zr165_12, zr165_13, zr165_14, zr165_15, zr165_16, zr165_17, zr165_18, zr165_21, zr165_24, zr165_25, zq_kill_int, zq_kill_ref, zq_kill_ret, zq_kill_null, zq_kill_long, zq_rf_some, zq_rf_none, true_and, and_true, true_implies, not_true_eq_false, not_false_eq_true, false_implies, Bool.true_eq_false, Bool.false_eq_true, nI_1, zb_i0, zb_i1, zb_i2, Option.toList_some, Option.toList_none, List.cons_append, List.nil_append, true_or, or_true, implies_true]
  refine Eq.trans loop ?_
  have h3 : (nI 7 < 7) = False := eq_false (by decide)
  rw [zr165_4]
  simp only [zr165_0, zr165_1, zr165_2, zr165_3, zr165_5, zr165_7, zr165_10, zr165_11, zr165_12, zr165_13, zr165_14, zr165_15, zr165_16, zr165_17, zr165_18, zr165_21, zr165_24, zr165_25, h3, zq_kill_int, zq_kill_ref, zq_kill_ret, zq_kill_null, zq_kill_long, zq_rf_some, zq_rf_none, true_and, and_true, true_implies, not_true_eq_false, not_false_eq_true, false_implies, Bool.true_eq_false, Bool.false_eq_true, nI_1, zb_i0, zb_i1, zb_i2, Option.toList_some, Option.toList_none, List.cons_append, List.nil_append, true_or, or_true, implies_true, bfold_n s hs]
theorem k_bitCount {s : Nat} (hs : s < 128) : zq_P d 51 0 [.int (nI s)] [] (S, hi, hl, hr) Q = Q (some (.int (nI (pcn s)))) (S, hi, hl, hr) := by
  simp only [zr51_0, zr51_1, zr51_2, zr51_3, zr51_4, zr51_7, zr51_8, zr51_9, zr51_10, zr51_11, zr51_14, zr51_15, zr51_16, zr51_17, zr51_18, zr51_21, zr51_22, zr51_23, zr51_24, zr51_25, zr51_26, zr51_27, zr51_28, zr51_29, zr51_32, zr51_33, zr51_34, zr51_35, zr51_36, zr51_38, zr51_39, zr51_40, zr51_41, zr51_42, zr51_43, zr51_45, zr51_46, zr51_47, zr51_48, zr51_49, zr51_51, zr51_52, zq_kill_int, zq_kill_ref, zq_kill_ret, zq_kill_null, zq_kill_long, zq_rf_some, zq_rf_none, true_and, and_true, true_implies, not_true_eq_false, not_false_eq_true, false_implies, Bool.true_eq_false, Bool.false_eq_true, nI_1, zb_i0, zb_i1, zb_i2, Option.toList_some, Option.toList_none, List.cons_append, List.nil_append, true_or, or_true, implies_true]
  congr 3
  revert s
  decide +kernel
end Z29
