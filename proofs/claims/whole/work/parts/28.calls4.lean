/-! count, mark -/
section Z28
variable {N ca cb cs d W P D : Nat} {hi : zq_I} {hl : zq_J} {Q : Option Value → zq_G → Prop} {x z b : Int32}
theorem zb_cnt_cong {p q : Nat → Bool} {n : Nat} (h : ∀ k, k < n → p k = q k) : zb_cnt p n = zb_cnt q n := by
  induction n with
  | zero => rfl
  | succ n ih => rw [zb_cnt_s, zb_cnt_s, ih (fun k hk => h k (by omega)), h n (by omega)]
theorem zb_add0 (x : Int32) : x + 0 = x := by simp
theorem k_EF_howManyThere {A bb M T : Nat} (hs : zq_Ss (zq_SG N) (zq_HR ca cb cs) A bb M T) (hM : M ≤ 6) : zq_P (d + 1) 104 0 [.ref A, .retAddr 0, .retAddr 0] [] (zq_SG N, hi, hl, zq_HR ca cb cs) Q = Q (some (.int (zb_cnt (fun r => decide (¬ hi (bb + 2 * r) 1 < 0)) M))) (zq_SG N, hi, hl, zq_HR ca cb cs) := by
  obtain ⟨hA, hr⟩ := hs
  generalize hp : (fun r => decide (¬ hi (bb + 2 * r) 1 < 0)) = p
  have loop : zq_P (d + 1) 104 4 [.ref A, .int (zb_cnt p 0), .int (nI 0)] [] (zq_SG N, hi, hl, zq_HR ca cb cs) Q = zq_P (d + 1) 104 4 [.ref A, .int (zb_cnt p M), .int (nI M)] [] (zq_SG N, hi, hl, zq_HR ca cb cs) Q := by
    refine zq_loop (f := fun k => zq_P (d + 1) 104 4 [.ref A, .int (zb_cnt p k), .int (nI k)] [] (zq_SG N, hi, hl, zq_HR ca cb cs) Q) fun k hk => ?_
    have h1 : zq_xS (nI k) M := zb_x (by omega) (by omega)
    have h2 : (nI k).toNatClampNeg = k := zb_cl (by omega)
    have h3 : (nI k < nI M) = True := eq_true ((nI_ltI (by omega) (by omega)).mpr hk)
    obtain ⟨r1, r2⟩ := hr k hk
    unfold zq_Sp at r2
    rw [zr104_4]
    simp only [zr104_0, zr104_1, zr104_2, zr104_3, zr104_5, zr104_6, zr104_7, zr104_10, zr104_11, zr104_12, zr104_13, zr104_16, zr104_19, zr104_22, zr104_25, zr104_28, zr104_29, zr15_0, zr15_1, zr15_4, zr15_7, zr15_8, zr15_11, zr15_12, hA, h1, h2, h3, r1, r2, zq_kill_int, zq_kill_ref, zq_kill_ret, zq_kill_null, zq_kill_long, zq_rf_some, zq_rf_none, true_and, and_true, true_implies, not_true_eq_false, not_false_eq_true, false_implies, Bool.true_eq_false, Bool.false_eq_true, nI_1, zb_i0, zb_i1, zb_i2, Option.toList_some, Option.toList_none, List.cons_append, List.nil_append, true_or, or_true, implies_true, zb_cnt_s, ← hp, decide_eq_true_eq]
    by_cases h4 : hi (bb + 2 * k) 1 < 0 <;> simp [h4]
  have h3 : (nI M < nI M) = False := eq_false (nI_nlt (Nat.le_refl _) (by omega))
  simp only [zr104_0, zr104_1, zr104_2, zr104_3, zr104_5, zr104_6, zr104_7, zr104_10, zr104_11, zr104_12, zr104_13, zr104_16, zr104_19, zr104_22, zr104_25, zr104_28, zr104_29, zq_kill_int, zq_kill_ref, zq_kill_ret, zq_kill_null, zq_kill_long, zq_rf_some, zq_rf_none, true_and, and_true, true_implies, not_true_eq_false, not_false_eq_true, false_implies, Bool.true_eq_false, Bool.false_eq_true, nI_1, zb_i0, zb_i1, zb_i2, Option.toList_some, Option.toList_none, List.cons_append, List.nil_append, true_or, or_true, implies_true]
  refine Eq.trans loop ?_
  rw [zr104_4]
  simp only [zr104_0, zr104_1, zr104_2, zr104_3, zr104_5, zr104_6, zr104_7, zr104_10, zr104_11, zr104_12, zr104_13, zr104_16, zr104_19, zr104_22, zr104_25, zr104_28, zr104_29, hA, h3, zq_kill_int, zq_kill_ref, zq_kill_ret, zq_kill_null, zq_kill_long, zq_rf_some, zq_rf_none, true_and, and_true, true_implies, not_true_eq_false, not_false_eq_true, false_implies, Bool.true_eq_false, Bool.false_eq_true, nI_1, zb_i0, zb_i1, zb_i2, Option.toList_some, Option.toList_none, List.cons_append, List.nil_append, true_or, or_true, implies_true]
def zm_isA (k b : Int32) : Bool := decide (k = b ∨ (b = 1 ∧ k = 4) ∨ (b = 2 ∧ k = 5))
theorem k_M_isA {g : zq_G} : zq_P d 163 0 [.int x, .int b] [] g Q = Q (some (.int (zb_i (zm_isA x b)))) g := by
  obtain ⟨S, hi, hl, hr⟩ := g
  simp only [zr163_0, zr163_1, zr163_2, zr163_5, zr163_6, zr163_7, zr163_10, zr163_11, zr163_12, zr163_15, zr163_16, zr163_17, zr163_20, zr163_21, zr163_22, zr163_25, zr163_26, zr163_29, zr163_30, zm_isA, zb_i, decide_eq_true_eq]
  by_cases h1 : x = b
  · simp [h1]
  · by_cases h2 : b = 1
    · subst h2
      by_cases h4 : x = 4 <;> simp [h1, h4]
    · by_cases h3 : b = 2
      · subst h3
        by_cases h5 : x = 5 <;> simp [h1, h5]
      · simp [h1, h2, h3]
theorem zm_isA_of (h : ¬ b = 0) : zc_kindIs x b = zm_isA x b := by
  unfold zc_kindIs zm_isA
  simp [h]
theorem k_M_howMany (hp : hi 60 10 = nI W) (hW : W ≤ 7) : zq_P (d + 1) 164 0 [.ref 60, .int b, .retAddr 0, .retAddr 0] [] (zq_SG N, hi, hl, zq_HR ca cb cs) Q = Q (some (.int (zb_cnt (fun w => zm_isA (hi 69 w) b) W))) (zq_SG N, hi, hl, zq_HR ca cb cs) := by
  generalize hpp : (fun w => zm_isA (hi 69 w) b) = p
  have loop : zq_P (d + 1) 164 4 [.ref 60, .int b, .int (zb_cnt p 0), .int (nI 0)] [] (zq_SG N, hi, hl, zq_HR ca cb cs) Q = zq_P (d + 1) 164 4 [.ref 60, .int b, .int (zb_cnt p W), .int (nI W)] [] (zq_SG N, hi, hl, zq_HR ca cb cs) Q := by
    refine zq_loop (f := fun k => zq_P (d + 1) 164 4 [.ref 60, .int b, .int (zb_cnt p k), .int (nI k)] [] (zq_SG N, hi, hl, zq_HR ca cb cs) Q) fun k hk => ?_
    have h1 : zq_xS (nI k) 7 := zb_x (by omega) (by omega)
    have h2 : (nI k).toNatClampNeg = k := zb_cl (by omega)
    have h3 : (nI k < nI W) = True := eq_true ((nI_ltI (by omega) (by omega)).mpr hk)
    rw [zr164_4]
    simp only [zr164_0, zr164_1, zr164_2, zr164_3, zr164_5, zr164_6, zr164_9, zr164_12, zr164_13, zr164_14, zr164_17, zr164_18, zr164_19, zr164_20, zr164_23, zr164_26, zr164_27, zr164_30, zr164_31, zr164_32, zr164_33, zr164_36, zr164_39, zr164_40, zs_m0 N, zs_m1 N, zs_m2 N, zh_m0 ca cb cs, hp, h1, h2, h3, k_M_isA, zq_kill_int, zq_kill_ref, zq_kill_ret, zq_kill_null, zq_kill_long, zq_rf_some, zq_rf_none, true_and, and_true, true_implies, not_true_eq_false, not_false_eq_true, false_implies, Bool.true_eq_false, Bool.false_eq_true, nI_1, zb_i0, zb_i1, zb_i2, Option.toList_some, Option.toList_none, List.cons_append, List.nil_append, true_or, or_true, implies_true, zb_cnt_s, ← hpp, zb_add0]
    by_cases h4 : zm_isA (hi 69 k) b = true <;> simp [h4]
  have h3 : (nI W < nI W) = False := eq_false (nI_nlt (Nat.le_refl _) (by omega))
  simp only [zr164_0, zr164_1, zr164_2, zr164_3, zr164_5, zr164_6, zr164_9, zr164_12, zr164_13, zr164_14, zr164_17, zr164_18, zr164_19, zr164_20, zr164_23, zr164_26, zr164_27, zr164_30, zr164_31, zr164_32, zr164_33, zr164_36, zr164_39, zr164_40, zq_kill_int, zq_kill_ref, zq_kill_ret, zq_kill_null, zq_kill_long, zq_rf_some, zq_rf_none, true_and, and_true, true_implies, not_true_eq_false, not_false_eq_true, false_implies, Bool.true_eq_false, Bool.false_eq_true, nI_1, zb_i0, zb_i1, zb_i2, Option.toList_some, Option.toList_none, List.cons_append, List.nil_append, true_or, or_true, implies_true]
  refine Eq.trans loop ?_
  rw [zr164_4]
  simp only [zr164_0, zr164_1, zr164_2, zr164_3, zr164_5, zr164_6, zr164_9, zr164_12, zr164_13, zr164_14, zr164_17, zr164_18, zr164_19, zr164_20, zr164_23, zr164_26, zr164_27, zr164_30, zr164_31, zr164_32, zr164_33, zr164_36, zr164_39, zr164_40, zs_m0 N, zs_m1 N, zs_m2 N, zh_m0 ca cb cs, hp, h3, zq_kill_int, zq_kill_ref, zq_kill_ret, zq_kill_null, zq_kill_long, zq_rf_some, zq_rf_none, true_and, and_true, true_implies, not_true_eq_false, not_false_eq_true, false_implies, Bool.true_eq_false, Bool.false_eq_true, nI_1, zb_i0, zb_i1, zb_i2, Option.toList_some, Option.toList_none, List.cons_append, List.nil_append, true_or, or_true, implies_true]
def th_p (hi : zq_I) (j k : Nat) : Bool := if j = 8 then decide (¬ hi 62 k < 0) else if j = 9 then decide (k < 4 ∧ ¬ hi 65 k < 0) else decide (k < 3 ∧ hi 77 k = 1)
theorem k_M_there {j : Nat} (hj : j = 8 ∨ j = 9 ∨ j = 10) : zq_P d 202 0 [.ref 60, .int (nI j), .retAddr 0, .retAddr 0] [] (zq_SG N, hi, hl, zq_HR ca cb cs) Q = Q (some (.int (zb_cnt (th_p hi j) 6))) (zq_SG N, hi, hl, zq_HR ca cb cs) := by
  have loop : zq_P d 202 4 [.ref 60, .int (nI j), .int (zb_cnt (th_p hi j) 0), .int (nI 0)] [] (zq_SG N, hi, hl, zq_HR ca cb cs) Q = zq_P d 202 4 [.ref 60, .int (nI j), .int (zb_cnt (th_p hi j) 6), .int (nI 6)] [] (zq_SG N, hi, hl, zq_HR ca cb cs) Q := by
    refine zq_loop (f := fun k => zq_P d 202 4 [.ref 60, .int (nI j), .int (zb_cnt (th_p hi j) k), .int (nI k)] [] (zq_SG N, hi, hl, zq_HR ca cb cs) Q) fun k hk => ?_
    have h1 : zq_xS (nI k) 6 := zb_x (by omega) (by omega)
    have h2 : (nI k).toNatClampNeg = k := zb_cl (by omega)
    have h3 : (nI k < 6) = True := eq_true ((nI_ltI (b := 6) (by omega) (by omega)).mpr hk)
    have h4 : (nI k < 4) = (k < 4) := zb_lt (b := 4) (by omega) (by omega)
    have h5 : (nI k < 3) = (k < 3) := zb_lt (b := 3) (by omega) (by omega)
    have x4 : k < 4 → zq_xS (nI k) 4 := fun q => zb_x q (by omega)
    have x3 : k < 3 → zq_xS (nI k) 3 := fun q => zb_x q (by omega)
    have e8 : (nI j = 8) = (j = 8) := zb_eq (b := 8) (by omega) (by omega)
    have e9 : (nI j = 9) = (j = 9) := zb_eq (b := 9) (by omega) (by omega)
    have e10 : (nI j = 10) = (j = 10) := zb_eq (b := 10) (by omega) (by omega)
    rw [zr202_4]
    simp only [zr202_0, zr202_1, zr202_2, zr202_3, zr202_5, zr202_7, zr202_10, zr202_11, zr202_12, zr202_14, zr202_17, zr202_18, zr202_21, zr202_22, zr202_23, zr202_26, zr202_27, zr202_29, zr202_32, zr202_33, zr202_34, zr202_37, zr202_38, zr202_41, zr202_42, zr202_43, zr202_46, zr202_47, zr202_49, zr202_52, zr202_53, zr202_54, zr202_57, zr202_58, zr202_61, zr202_62, zr202_63, zr202_64, zr202_67, zr202_68, zr202_71, zr202_72, zr202_73, zr202_74, zr202_77, zr202_80, zr202_81, zs_m0 N, zs_m1 N, zs_m2 N, zh_m0 ca cb cs, h1, h2, h3, h4, h5, e8, e9, e10, zq_kill_int, zq_kill_ref, zq_kill_ret, zq_kill_null, zq_kill_long, zq_rf_some, zq_rf_none, true_and, and_true, true_implies, not_true_eq_false, not_false_eq_true, false_implies, Bool.true_eq_false, Bool.false_eq_true, nI_1, zb_i0, zb_i1, zb_i2, Option.toList_some, Option.toList_none, List.cons_append, List.nil_append, true_or, or_true, implies_true, zb_cnt_s, th_p, zb_add0]
    rcases hj with rfl | rfl | rfl
    · by_cases q : hi 62 k < 0 <;> simp [q]
    · by_cases q4 : k < 4
      · by_cases q : hi 65 k < 0 <;> simp [q, q4, x4 q4]
      · simp [q4]
    · by_cases q3 : k < 3
      · by_cases q : hi 77 k = 1 <;> simp [q, q3, x3 q3]
      · simp [q3]
  simp only [zr202_0, zr202_1, zr202_2, zr202_3, zr202_5, zr202_7, zr202_10, zr202_11, zr202_12, zr202_14, zr202_17, zr202_18, zr202_21, zr202_22, zr202_23, zr202_26, zr202_27, zr202_29, zr202_32, zr202_33, zr202_34, zr202_37, zr202_38, zr202_41, zr202_42, zr202_43, zr202_46, zr202_47, zr202_49, zr202_52, zr202_53, zr202_54, zr202_57, zr202_58, zr202_61, zr202_62, zr202_63, zr202_64, zr202_67, zr202_68, zr202_71, zr202_72, zr202_73, zr202_74, zr202_77, zr202_80, zr202_81, zq_kill_int, zq_kill_ref, zq_kill_ret, zq_kill_null, zq_kill_long, zq_rf_some, zq_rf_none, true_and, and_true, true_implies, not_true_eq_false, not_false_eq_true, false_implies, Bool.true_eq_false, Bool.false_eq_true, nI_1, zb_i0, zb_i1, zb_i2, Option.toList_some, Option.toList_none, List.cons_append, List.nil_append, true_or, or_true, implies_true]
  refine Eq.trans loop ?_
  have h3 : (nI 6 < 6) = False := eq_false (by decide)
  rw [zr202_4]
  simp only [zr202_0, zr202_1, zr202_2, zr202_3, zr202_5, zr202_7, zr202_10, zr202_11, zr202_12, zr202_14, zr202_17, zr202_18, zr202_21, zr202_22, zr202_23, zr202_26, zr202_27, zr202_29, zr202_32, zr202_33, zr202_34, zr202_37, zr202_38, zr202_41, zr202_42, zr202_43, zr202_46, zr202_47, zr202_49, zr202_52, zr202_53, zr202_54, zr202_57, zr202_58, zr202_61, zr202_62, zr202_63, zr202_64, zr202_67, zr202_68, zr202_71, zr202_72, zr202_73, zr202_74, zr202_77, zr202_80, zr202_81, zs_m0 N, zs_m1 N, zs_m2 N, zh_m0 ca cb cs, h3, zq_kill_int, zq_kill_ref, zq_kill_ret, zq_kill_null, zq_kill_long, zq_rf_some, zq_rf_none, true_and, and_true, true_implies, not_true_eq_false, not_false_eq_true, false_implies, Bool.true_eq_false, Bool.false_eq_true, nI_1, zb_i0, zb_i1, zb_i2, Option.toList_some, Option.toList_none, List.cons_append, List.nil_append, true_or, or_true, implies_true]
/-- what count tells -/
def nf (hi : zq_I) (W j : Nat) : Int32 := match j with
  | 0 => hi 60 10
  | 1 => hi 60 12
  | 2 => hi 60 25
  | 3 => hi 60 30
  | 4 => hi 60 26
  | 5 => hi 60 27
  | 6 => zb_cnt (fun w => zm_isA (hi 69 w) 1) W
  | 7 => zb_cnt (fun w => zm_isA (hi 69 w) 2) W
  | j => zb_cnt (th_p hi j) 6
theorem k_M_tells {j : Nat} (hp : hi 60 10 = nI W) (hW : W ≤ 7) (hj : j < 11) : zq_P (d + 2) 201 0 [.ref 60, .int (nI j)] [] (zq_SG N, hi, hl, zq_HR ca cb cs) Q = Q (some (.int (nf hi W j))) (zq_SG N, hi, hl, zq_HR ca cb cs) := by
  match j, hj with
  | 0, _ =>
    show zq_P (d + 2) 201 0 [.ref 60, .int 0] [] (zq_SG N, hi, hl, zq_HR ca cb cs) Q = _
    simp only [zr201_0, zr201_48, zr201_49, zr201_52, zr201_53, zr201_54, zr201_57, zr201_58, zr201_59, zr201_62, zr201_63, zr201_64, zr201_67, zr201_68, zr201_69, zr201_72, zr201_73, zr201_74, zr201_77, zr201_78, zr201_79, zr201_80, zr201_83, zr201_84, zr201_85, zr201_86, zr201_89, zr201_90, zr201_91, zr201_92, zr201_95, zr201_1_s0, zr201_1_s1, zr201_1_s2, zr201_1_s3, zr201_1_s4, zr201_1_s5, zr201_1_s6, zr201_1_s7, zs_m0 N, zs_m1 N, zs_m2 N, zh_m0 ca cb cs, zq_kill_int, zq_kill_ref, zq_kill_ret, zq_kill_null, zq_kill_long, zq_rf_some, zq_rf_none, true_and, and_true, true_implies, not_true_eq_false, not_false_eq_true, false_implies, Bool.true_eq_false, Bool.false_eq_true, nI_1, zb_i0, zb_i1, zb_i2, Option.toList_some, Option.toList_none, List.cons_append, List.nil_append, true_or, or_true, implies_true, nf]
  | 1, _ =>
    show zq_P (d + 2) 201 0 [.ref 60, .int 1] [] (zq_SG N, hi, hl, zq_HR ca cb cs) Q = _
    simp only [zr201_0, zr201_48, zr201_49, zr201_52, zr201_53, zr201_54, zr201_57, zr201_58, zr201_59, zr201_62, zr201_63, zr201_64, zr201_67, zr201_68, zr201_69, zr201_72, zr201_73, zr201_74, zr201_77, zr201_78, zr201_79, zr201_80, zr201_83, zr201_84, zr201_85, zr201_86, zr201_89, zr201_90, zr201_91, zr201_92, zr201_95, zr201_1_s0, zr201_1_s1, zr201_1_s2, zr201_1_s3, zr201_1_s4, zr201_1_s5, zr201_1_s6, zr201_1_s7, zs_m0 N, zs_m1 N, zs_m2 N, zh_m0 ca cb cs, zq_kill_int, zq_kill_ref, zq_kill_ret, zq_kill_null, zq_kill_long, zq_rf_some, zq_rf_none, true_and, and_true, true_implies, not_true_eq_false, not_false_eq_true, false_implies, Bool.true_eq_false, Bool.false_eq_true, nI_1, zb_i0, zb_i1, zb_i2, Option.toList_some, Option.toList_none, List.cons_append, List.nil_append, true_or, or_true, implies_true, nf]
  | 2, _ =>
    show zq_P (d + 2) 201 0 [.ref 60, .int 2] [] (zq_SG N, hi, hl, zq_HR ca cb cs) Q = _
    simp only [zr201_0, zr201_48, zr201_49, zr201_52, zr201_53, zr201_54, zr201_57, zr201_58, zr201_59, zr201_62, zr201_63, zr201_64, zr201_67, zr201_68, zr201_69, zr201_72, zr201_73, zr201_74, zr201_77, zr201_78, zr201_79, zr201_80, zr201_83, zr201_84, zr201_85, zr201_86, zr201_89, zr201_90, zr201_91, zr201_92, zr201_95, zr201_1_s0, zr201_1_s1, zr201_1_s2, zr201_1_s3, zr201_1_s4, zr201_1_s5, zr201_1_s6, zr201_1_s7, zs_m0 N, zs_m1 N, zs_m2 N, zh_m0 ca cb cs, zq_kill_int, zq_kill_ref, zq_kill_ret, zq_kill_null, zq_kill_long, zq_rf_some, zq_rf_none, true_and, and_true, true_implies, not_true_eq_false, not_false_eq_true, false_implies, Bool.true_eq_false, Bool.false_eq_true, nI_1, zb_i0, zb_i1, zb_i2, Option.toList_some, Option.toList_none, List.cons_append, List.nil_append, true_or, or_true, implies_true, nf]
  | 3, _ =>
    show zq_P (d + 2) 201 0 [.ref 60, .int 3] [] (zq_SG N, hi, hl, zq_HR ca cb cs) Q = _
    simp only [zr201_0, zr201_48, zr201_49, zr201_52, zr201_53, zr201_54, zr201_57, zr201_58, zr201_59, zr201_62, zr201_63, zr201_64, zr201_67, zr201_68, zr201_69, zr201_72, zr201_73, zr201_74, zr201_77, zr201_78, zr201_79, zr201_80, zr201_83, zr201_84, zr201_85, zr201_86, zr201_89, zr201_90, zr201_91, zr201_92, zr201_95, zr201_1_s0, zr201_1_s1, zr201_1_s2, zr201_1_s3, zr201_1_s4, zr201_1_s5, zr201_1_s6, zr201_1_s7, zs_m0 N, zs_m1 N, zs_m2 N, zh_m0 ca cb cs, zq_kill_int, zq_kill_ref, zq_kill_ret, zq_kill_null, zq_kill_long, zq_rf_some, zq_rf_none, true_and, and_true, true_implies, not_true_eq_false, not_false_eq_true, false_implies, Bool.true_eq_false, Bool.false_eq_true, nI_1, zb_i0, zb_i1, zb_i2, Option.toList_some, Option.toList_none, List.cons_append, List.nil_append, true_or, or_true, implies_true, nf]
  | 4, _ =>
    show zq_P (d + 2) 201 0 [.ref 60, .int 4] [] (zq_SG N, hi, hl, zq_HR ca cb cs) Q = _
    simp only [zr201_0, zr201_48, zr201_49, zr201_52, zr201_53, zr201_54, zr201_57, zr201_58, zr201_59, zr201_62, zr201_63, zr201_64, zr201_67, zr201_68, zr201_69, zr201_72, zr201_73, zr201_74, zr201_77, zr201_78, zr201_79, zr201_80, zr201_83, zr201_84, zr201_85, zr201_86, zr201_89, zr201_90, zr201_91, zr201_92, zr201_95, zr201_1_s0, zr201_1_s1, zr201_1_s2, zr201_1_s3, zr201_1_s4, zr201_1_s5, zr201_1_s6, zr201_1_s7, zs_m0 N, zs_m1 N, zs_m2 N, zh_m0 ca cb cs, zq_kill_int, zq_kill_ref, zq_kill_ret, zq_kill_null, zq_kill_long, zq_rf_some, zq_rf_none, true_and, and_true, true_implies, not_true_eq_false, not_false_eq_true, false_implies, Bool.true_eq_false, Bool.false_eq_true, nI_1, zb_i0, zb_i1, zb_i2, Option.toList_some, Option.toList_none, List.cons_append, List.nil_append, true_or, or_true, implies_true, nf]
  | 5, _ =>
    show zq_P (d + 2) 201 0 [.ref 60, .int 5] [] (zq_SG N, hi, hl, zq_HR ca cb cs) Q = _
    simp only [zr201_0, zr201_48, zr201_49, zr201_52, zr201_53, zr201_54, zr201_57, zr201_58, zr201_59, zr201_62, zr201_63, zr201_64, zr201_67, zr201_68, zr201_69, zr201_72, zr201_73, zr201_74, zr201_77, zr201_78, zr201_79, zr201_80, zr201_83, zr201_84, zr201_85, zr201_86, zr201_89, zr201_90, zr201_91, zr201_92, zr201_95, zr201_1_s0, zr201_1_s1, zr201_1_s2, zr201_1_s3, zr201_1_s4, zr201_1_s5, zr201_1_s6, zr201_1_s7, zs_m0 N, zs_m1 N, zs_m2 N, zh_m0 ca cb cs, zq_kill_int, zq_kill_ref, zq_kill_ret, zq_kill_null, zq_kill_long, zq_rf_some, zq_rf_none, true_and, and_true, true_implies, not_true_eq_false, not_false_eq_true, false_implies, Bool.true_eq_false, Bool.false_eq_true, nI_1, zb_i0, zb_i1, zb_i2, Option.toList_some, Option.toList_none, List.cons_append, List.nil_append, true_or, or_true, implies_true, nf]
  | 6, _ =>
    show zq_P (d + 2) 201 0 [.ref 60, .int 6] [] (zq_SG N, hi, hl, zq_HR ca cb cs) Q = _
    simp only [zr201_0, zr201_48, zr201_49, zr201_52, zr201_53, zr201_54, zr201_57, zr201_58, zr201_59, zr201_62, zr201_63, zr201_64, zr201_67, zr201_68, zr201_69, zr201_72, zr201_73, zr201_74, zr201_77, zr201_78, zr201_79, zr201_80, zr201_83, zr201_84, zr201_85, zr201_86, zr201_89, zr201_90, zr201_91, zr201_92, zr201_95, zr201_1_s0, zr201_1_s1, zr201_1_s2, zr201_1_s3, zr201_1_s4, zr201_1_s5, zr201_1_s6, zr201_1_s7, zs_m0 N, zs_m1 N, zs_m2 N, zh_m0 ca cb cs, zq_kill_int, zq_kill_ref, zq_kill_ret, zq_kill_null, zq_kill_long, zq_rf_some, zq_rf_none, true_and, and_true, true_implies, not_true_eq_false, not_false_eq_true, false_implies, Bool.true_eq_false, Bool.false_eq_true, nI_1, zb_i0, zb_i1, zb_i2, Option.toList_some, Option.toList_none, List.cons_append, List.nil_append, true_or, or_true, implies_true, nf, k_M_howMany hp hW]
  | 7, _ =>
    show zq_P (d + 2) 201 0 [.ref 60, .int 7] [] (zq_SG N, hi, hl, zq_HR ca cb cs) Q = _
    simp only [zr201_0, zr201_48, zr201_49, zr201_52, zr201_53, zr201_54, zr201_57, zr201_58, zr201_59, zr201_62, zr201_63, zr201_64, zr201_67, zr201_68, zr201_69, zr201_72, zr201_73, zr201_74, zr201_77, zr201_78, zr201_79, zr201_80, zr201_83, zr201_84, zr201_85, zr201_86, zr201_89, zr201_90, zr201_91, zr201_92, zr201_95, zr201_1_s0, zr201_1_s1, zr201_1_s2, zr201_1_s3, zr201_1_s4, zr201_1_s5, zr201_1_s6, zr201_1_s7, zs_m0 N, zs_m1 N, zs_m2 N, zh_m0 ca cb cs, zq_kill_int, zq_kill_ref, zq_kill_ret, zq_kill_null, zq_kill_long, zq_rf_some, zq_rf_none, true_and, and_true, true_implies, not_true_eq_false, not_false_eq_true, false_implies, Bool.true_eq_false, Bool.false_eq_true, nI_1, zb_i0, zb_i1, zb_i2, Option.toList_some, Option.toList_none, List.cons_append, List.nil_append, true_or, or_true, implies_true, nf, k_M_howMany hp hW]
  | 8, _ =>
    show zq_P (d + 2) 201 0 [.ref 60, .int 8] [] (zq_SG N, hi, hl, zq_HR ca cb cs) Q = _
    have h : ∀ Q, zq_P (d + 1) 202 0 [.ref 60, .int 8, .retAddr 0, .retAddr 0] [] (zq_SG N, hi, hl, zq_HR ca cb cs) Q = Q (some (.int (zb_cnt (th_p hi 8) 6))) (zq_SG N, hi, hl, zq_HR ca cb cs) := fun Q => k_M_there (j := 8) (Or.inl rfl)
    simp only [zr201_0, zr201_48, zr201_49, zr201_52, zr201_53, zr201_54, zr201_57, zr201_58, zr201_59, zr201_62, zr201_63, zr201_64, zr201_67, zr201_68, zr201_69, zr201_72, zr201_73, zr201_74, zr201_77, zr201_78, zr201_79, zr201_80, zr201_83, zr201_84, zr201_85, zr201_86, zr201_89, zr201_90, zr201_91, zr201_92, zr201_95, zr201_1_s0, zr201_1_s1, zr201_1_s2, zr201_1_s3, zr201_1_s4, zr201_1_s5, zr201_1_s6, zr201_1_s7, zd201_1 (x := 8) (Or.inr (by decide)), zs_m0 N, zs_m1 N, zs_m2 N, zh_m0 ca cb cs, zq_kill_int, zq_kill_ref, zq_kill_ret, zq_kill_null, zq_kill_long, zq_rf_some, zq_rf_none, true_and, and_true, true_implies, not_true_eq_false, not_false_eq_true, false_implies, Bool.true_eq_false, Bool.false_eq_true, nI_1, zb_i0, zb_i1, zb_i2, Option.toList_some, Option.toList_none, List.cons_append, List.nil_append, true_or, or_true, implies_true, nf, h]
  | 9, _ =>
    show zq_P (d + 2) 201 0 [.ref 60, .int 9] [] (zq_SG N, hi, hl, zq_HR ca cb cs) Q = _
    have h : ∀ Q, zq_P (d + 1) 202 0 [.ref 60, .int 9, .retAddr 0, .retAddr 0] [] (zq_SG N, hi, hl, zq_HR ca cb cs) Q = Q (some (.int (zb_cnt (th_p hi 9) 6))) (zq_SG N, hi, hl, zq_HR ca cb cs) := fun Q => k_M_there (j := 9) (Or.inr (Or.inl rfl))
    simp only [zr201_0, zr201_48, zr201_49, zr201_52, zr201_53, zr201_54, zr201_57, zr201_58, zr201_59, zr201_62, zr201_63, zr201_64, zr201_67, zr201_68, zr201_69, zr201_72, zr201_73, zr201_74, zr201_77, zr201_78, zr201_79, zr201_80, zr201_83, zr201_84, zr201_85, zr201_86, zr201_89, zr201_90, zr201_91, zr201_92, zr201_95, zr201_1_s0, zr201_1_s1, zr201_1_s2, zr201_1_s3, zr201_1_s4, zr201_1_s5, zr201_1_s6, zr201_1_s7, zd201_1 (x := 9) (Or.inr (by decide)), zs_m0 N, zs_m1 N, zs_m2 N, zh_m0 ca cb cs, zq_kill_int, zq_kill_ref, zq_kill_ret, zq_kill_null, zq_kill_long, zq_rf_some, zq_rf_none, true_and, and_true, true_implies, not_true_eq_false, not_false_eq_true, false_implies, Bool.true_eq_false, Bool.false_eq_true, nI_1, zb_i0, zb_i1, zb_i2, Option.toList_some, Option.toList_none, List.cons_append, List.nil_append, true_or, or_true, implies_true, nf, h]
  | 10, _ =>
    show zq_P (d + 2) 201 0 [.ref 60, .int 10] [] (zq_SG N, hi, hl, zq_HR ca cb cs) Q = _
    have h : ∀ Q, zq_P (d + 1) 202 0 [.ref 60, .int 10, .retAddr 0, .retAddr 0] [] (zq_SG N, hi, hl, zq_HR ca cb cs) Q = Q (some (.int (zb_cnt (th_p hi 10) 6))) (zq_SG N, hi, hl, zq_HR ca cb cs) := fun Q => k_M_there (j := 10) (Or.inr (Or.inr rfl))
    simp only [zr201_0, zr201_48, zr201_49, zr201_52, zr201_53, zr201_54, zr201_57, zr201_58, zr201_59, zr201_62, zr201_63, zr201_64, zr201_67, zr201_68, zr201_69, zr201_72, zr201_73, zr201_74, zr201_77, zr201_78, zr201_79, zr201_80, zr201_83, zr201_84, zr201_85, zr201_86, zr201_89, zr201_90, zr201_91, zr201_92, zr201_95, zr201_1_s0, zr201_1_s1, zr201_1_s2, zr201_1_s3, zr201_1_s4, zr201_1_s5, zr201_1_s6, zr201_1_s7, zd201_1 (x := 10) (Or.inr (by decide)), zs_m0 N, zs_m1 N, zs_m2 N, zh_m0 ca cb cs, zq_kill_int, zq_kill_ref, zq_kill_ret, zq_kill_null, zq_kill_long, zq_rf_some, zq_rf_none, true_and, and_true, true_implies, not_true_eq_false, not_false_eq_true, false_implies, Bool.true_eq_false, Bool.false_eq_true, nI_1, zb_i0, zb_i1, zb_i2, Option.toList_some, Option.toList_none, List.cons_append, List.nil_append, true_or, or_true, implies_true, nf, h]
theorem sm_st_neg {a ms mp M T : Nat} (h : sm_st hi a ms mp M T) (hT : T ≤ 100) {r : Nat} (hr : r < M) : (hi (a + 2 * r) 1 < 0) = (hi ms r < 0) := by
  rcases h r hr with ⟨e1, e2⟩ | ⟨n, hn, e1, e2, -⟩
  · rw [e1, e2]; decide
  · rw [e1, e2]
theorem th_8 (h : sm_st hi 2 62 63 6 40) : zb_cnt (fun r => decide (¬ hi (2 + 2 * r) 1 < 0)) 6 = zb_cnt (th_p hi 8) 6 := zb_cnt_cong fun k hk => by simp only [th_p, sm_st_neg h (by omega) hk, if_pos]
theorem th_9 (h : sm_st hi 15 65 66 4 60) : zb_cnt (fun r => decide (¬ hi (15 + 2 * r) 1 < 0)) 4 = zb_cnt (th_p hi 9) 6 := by
  have e : zb_cnt (th_p hi 9) 6 = zb_cnt (th_p hi 9) 4 := by
    rw [zb_cnt_s, zb_cnt_s]
    simp [th_p]
  rw [e]
  exact zb_cnt_cong fun k hk => by simp [th_p, sm_st_neg h (by omega) hk, hk]
theorem th_10 (h : sm_dd hi W D) : zb_cnt (fun r => decide (¬ hi (24 + 2 * r) 1 < 0)) 3 = zb_cnt (th_p hi 10) 6 := by
  have e : zb_cnt (th_p hi 10) 6 = zb_cnt (th_p hi 10) 3 := by
    rw [zb_cnt_s, zb_cnt_s, zb_cnt_s]
    simp [th_p]
  rw [e]
  refine zb_cnt_cong fun k hk => ?_
  rcases h.2.2.2.2.2 k hk with ⟨e1, e2⟩ | ⟨n, hn, -, e1, e2, -⟩
  · simp [th_p, e1, e2, hk]
  · have : ¬ nI n < 0 := nI_pos (by omega)
    simp [th_p, e1, e2, hk, this]
theorem k_EF_numberOf {j : Nat} (h : Sim hi hl ca cb cs W P D) (hj : j < 11) : zq_P (d + 3) 103 0 [.ref 0, .int (nI j)] [] (zq_SG N, hi, hl, zq_HR ca cb cs) Q = Q (some (.int (nf hi W j))) (zq_SG N, hi, hl, zq_HR ca cb cs) := by
  have hc := zq_Ct_ok (N := N) (ca := ca) (cb := cb) (cs := cs) h.court
  have ho := zq_Co_ok (N := N) (ca := ca) (cb := cb) (cs := cs) (o := 32) (Or.inl rfl)
  obtain ⟨-, -, -, hrw, htx, hct, hdd⟩ := id h
  obtain ⟨⟨w1, w2, w3, w4, w5, w6, -⟩, -, wa⟩ := id hct
  obtain ⟨⟨d0, d1, d2, d3, d4, d5⟩, -, ⟨c1, c2, -⟩, ⟨m1, m2, -⟩, -⟩ := id hdd
  have hc2 := hc
  unfold zq_Ct at hc2
  unfold zq_Co at ho
  have cnt : ∀ b : Int32, ¬ b = 0 → zb_cnt (fun w => zc_kindIs (hi (ca + 3) w) b) W = zb_cnt (fun w => zm_isA (hi 69 w) b) W := fun b hb => zb_cnt_cong fun k hk => by rw [(wa k hk).1, zm_isA_of hb]
  match j, hj with
  | 0, _ =>
    show zq_P (d + 3) 103 0 [.ref 0, .int 0] [] (zq_SG N, hi, hl, zq_HR ca cb cs) Q = _
    simp only [zr103_0, zr103_56, zr103_57, zr103_60, zr103_63, zr103_64, zr103_65, zr103_68, zr103_71, zr103_72, zr103_73, zr103_76, zr103_79, zr103_80, zr103_81, zr103_84, zr103_87, zr103_88, zr103_89, zr103_92, zr103_95, zr103_96, zr103_97, zr103_100, zr103_103, zr103_104, zr103_105, zr103_108, zr103_109, zr103_112, zr103_113, zr103_114, zr103_117, zr103_118, zr103_121, zr103_122, zr103_123, zr103_126, zr103_129, zr103_130, zr103_131, zr103_134, zr103_137, zr103_138, zr103_139, zr103_142, zr103_145, zr103_1_s0, zr103_1_s1, zr103_1_s2, zr103_1_s3, zr103_1_s4, zr103_1_s5, zr103_1_s6, zr103_1_s7, zr103_1_s8, zr103_1_s9, zs_x0 N, zh_x0 ca cb cs, hc2, zq_kill_int, zq_kill_ref, zq_kill_ret, zq_kill_null, zq_kill_long, zq_rf_some, zq_rf_none, true_and, and_true, true_implies, not_true_eq_false, not_false_eq_true, false_implies, Bool.true_eq_false, Bool.false_eq_true, nI_1, zb_i0, zb_i1, zb_i2, Option.toList_some, Option.toList_none, List.cons_append, List.nil_append, true_or, or_true, implies_true, nf, w3, w4]
  | 1, _ =>
    show zq_P (d + 3) 103 0 [.ref 0, .int 1] [] (zq_SG N, hi, hl, zq_HR ca cb cs) Q = _
    simp only [zr103_0, zr103_56, zr103_57, zr103_60, zr103_63, zr103_64, zr103_65, zr103_68, zr103_71, zr103_72, zr103_73, zr103_76, zr103_79, zr103_80, zr103_81, zr103_84, zr103_87, zr103_88, zr103_89, zr103_92, zr103_95, zr103_96, zr103_97, zr103_100, zr103_103, zr103_104, zr103_105, zr103_108, zr103_109, zr103_112, zr103_113, zr103_114, zr103_117, zr103_118, zr103_121, zr103_122, zr103_123, zr103_126, zr103_129, zr103_130, zr103_131, zr103_134, zr103_137, zr103_138, zr103_139, zr103_142, zr103_145, zr103_1_s0, zr103_1_s1, zr103_1_s2, zr103_1_s3, zr103_1_s4, zr103_1_s5, zr103_1_s6, zr103_1_s7, zr103_1_s8, zr103_1_s9, zs_x0 N, zh_x0 ca cb cs, hc2, zq_kill_int, zq_kill_ref, zq_kill_ret, zq_kill_null, zq_kill_long, zq_rf_some, zq_rf_none, true_and, and_true, true_implies, not_true_eq_false, not_false_eq_true, false_implies, Bool.true_eq_false, Bool.false_eq_true, nI_1, zb_i0, zb_i1, zb_i2, Option.toList_some, Option.toList_none, List.cons_append, List.nil_append, true_or, or_true, implies_true, nf, w5, w6]
  | 2, _ =>
    show zq_P (d + 3) 103 0 [.ref 0, .int 2] [] (zq_SG N, hi, hl, zq_HR ca cb cs) Q = _
    simp only [zr103_0, zr103_56, zr103_57, zr103_60, zr103_63, zr103_64, zr103_65, zr103_68, zr103_71, zr103_72, zr103_73, zr103_76, zr103_79, zr103_80, zr103_81, zr103_84, zr103_87, zr103_88, zr103_89, zr103_92, zr103_95, zr103_96, zr103_97, zr103_100, zr103_103, zr103_104, zr103_105, zr103_108, zr103_109, zr103_112, zr103_113, zr103_114, zr103_117, zr103_118, zr103_121, zr103_122, zr103_123, zr103_126, zr103_129, zr103_130, zr103_131, zr103_134, zr103_137, zr103_138, zr103_139, zr103_142, zr103_145, zr103_1_s0, zr103_1_s1, zr103_1_s2, zr103_1_s3, zr103_1_s4, zr103_1_s5, zr103_1_s6, zr103_1_s7, zr103_1_s8, zr103_1_s9, zs_x0 N, zh_x0 ca cb cs, zq_kill_int, zq_kill_ref, zq_kill_ret, zq_kill_null, zq_kill_long, zq_rf_some, zq_rf_none, true_and, and_true, true_implies, not_true_eq_false, not_false_eq_true, false_implies, Bool.true_eq_false, Bool.false_eq_true, nI_1, zb_i0, zb_i1, zb_i2, Option.toList_some, Option.toList_none, List.cons_append, List.nil_append, true_or, or_true, implies_true, nf, d4, d5]
  | 3, _ =>
    show zq_P (d + 3) 103 0 [.ref 0, .int 3] [] (zq_SG N, hi, hl, zq_HR ca cb cs) Q = _
    simp only [zr103_0, zr103_56, zr103_57, zr103_60, zr103_63, zr103_64, zr103_65, zr103_68, zr103_71, zr103_72, zr103_73, zr103_76, zr103_79, zr103_80, zr103_81, zr103_84, zr103_87, zr103_88, zr103_89, zr103_92, zr103_95, zr103_96, zr103_97, zr103_100, zr103_103, zr103_104, zr103_105, zr103_108, zr103_109, zr103_112, zr103_113, zr103_114, zr103_117, zr103_118, zr103_121, zr103_122, zr103_123, zr103_126, zr103_129, zr103_130, zr103_131, zr103_134, zr103_137, zr103_138, zr103_139, zr103_142, zr103_145, zr103_1_s0, zr103_1_s1, zr103_1_s2, zr103_1_s3, zr103_1_s4, zr103_1_s5, zr103_1_s6, zr103_1_s7, zr103_1_s8, zr103_1_s9, zs_x0 N, zh_x0 ca cb cs, zq_kill_int, zq_kill_ref, zq_kill_ret, zq_kill_null, zq_kill_long, zq_rf_some, zq_rf_none, true_and, and_true, true_implies, not_true_eq_false, not_false_eq_true, false_implies, Bool.true_eq_false, Bool.false_eq_true, nI_1, zb_i0, zb_i1, zb_i2, Option.toList_some, Option.toList_none, List.cons_append, List.nil_append, true_or, or_true, implies_true, nf, d2, d3]
  | 4, _ =>
    show zq_P (d + 3) 103 0 [.ref 0, .int 4] [] (zq_SG N, hi, hl, zq_HR ca cb cs) Q = _
    simp only [zr103_0, zr103_56, zr103_57, zr103_60, zr103_63, zr103_64, zr103_65, zr103_68, zr103_71, zr103_72, zr103_73, zr103_76, zr103_79, zr103_80, zr103_81, zr103_84, zr103_87, zr103_88, zr103_89, zr103_92, zr103_95, zr103_96, zr103_97, zr103_100, zr103_103, zr103_104, zr103_105, zr103_108, zr103_109, zr103_112, zr103_113, zr103_114, zr103_117, zr103_118, zr103_121, zr103_122, zr103_123, zr103_126, zr103_129, zr103_130, zr103_131, zr103_134, zr103_137, zr103_138, zr103_139, zr103_142, zr103_145, zr103_1_s0, zr103_1_s1, zr103_1_s2, zr103_1_s3, zr103_1_s4, zr103_1_s5, zr103_1_s6, zr103_1_s7, zr103_1_s8, zr103_1_s9, zs_x0 N, zh_x0 ca cb cs, zq_kill_int, zq_kill_ref, zq_kill_ret, zq_kill_null, zq_kill_long, zq_rf_some, zq_rf_none, true_and, and_true, true_implies, not_true_eq_false, not_false_eq_true, false_implies, Bool.true_eq_false, Bool.false_eq_true, nI_1, zb_i0, zb_i1, zb_i2, Option.toList_some, Option.toList_none, List.cons_append, List.nil_append, true_or, or_true, implies_true, nf, c1, m1]
  | 5, _ =>
    show zq_P (d + 3) 103 0 [.ref 0, .int 5] [] (zq_SG N, hi, hl, zq_HR ca cb cs) Q = _
    simp only [zr103_0, zr103_56, zr103_57, zr103_60, zr103_63, zr103_64, zr103_65, zr103_68, zr103_71, zr103_72, zr103_73, zr103_76, zr103_79, zr103_80, zr103_81, zr103_84, zr103_87, zr103_88, zr103_89, zr103_92, zr103_95, zr103_96, zr103_97, zr103_100, zr103_103, zr103_104, zr103_105, zr103_108, zr103_109, zr103_112, zr103_113, zr103_114, zr103_117, zr103_118, zr103_121, zr103_122, zr103_123, zr103_126, zr103_129, zr103_130, zr103_131, zr103_134, zr103_137, zr103_138, zr103_139, zr103_142, zr103_145, zr103_1_s0, zr103_1_s1, zr103_1_s2, zr103_1_s3, zr103_1_s4, zr103_1_s5, zr103_1_s6, zr103_1_s7, zr103_1_s8, zr103_1_s9, zs_x0 N, zh_x0 ca cb cs, zq_kill_int, zq_kill_ref, zq_kill_ret, zq_kill_null, zq_kill_long, zq_rf_some, zq_rf_none, true_and, and_true, true_implies, not_true_eq_false, not_false_eq_true, false_implies, Bool.true_eq_false, Bool.false_eq_true, nI_1, zb_i0, zb_i1, zb_i2, Option.toList_some, Option.toList_none, List.cons_append, List.nil_append, true_or, or_true, implies_true, nf, c2, m2]
  | 6, _ =>
    show zq_P (d + 3) 103 0 [.ref 0, .int 6] [] (zq_SG N, hi, hl, zq_HR ca cb cs) Q = _
    simp only [zr103_0, zr103_56, zr103_57, zr103_60, zr103_63, zr103_64, zr103_65, zr103_68, zr103_71, zr103_72, zr103_73, zr103_76, zr103_79, zr103_80, zr103_81, zr103_84, zr103_87, zr103_88, zr103_89, zr103_92, zr103_95, zr103_96, zr103_97, zr103_100, zr103_103, zr103_104, zr103_105, zr103_108, zr103_109, zr103_112, zr103_113, zr103_114, zr103_117, zr103_118, zr103_121, zr103_122, zr103_123, zr103_126, zr103_129, zr103_130, zr103_131, zr103_134, zr103_137, zr103_138, zr103_139, zr103_142, zr103_145, zr103_1_s0, zr103_1_s1, zr103_1_s2, zr103_1_s3, zr103_1_s4, zr103_1_s5, zr103_1_s6, zr103_1_s7, zr103_1_s8, zr103_1_s9, zs_x0 N, zh_x0 ca cb cs, hc2, zq_kill_int, zq_kill_ref, zq_kill_ret, zq_kill_null, zq_kill_long, zq_rf_some, zq_rf_none, true_and, and_true, true_implies, not_true_eq_false, not_false_eq_true, false_implies, Bool.true_eq_false, Bool.false_eq_true, nI_1, zb_i0, zb_i1, zb_i2, Option.toList_some, Option.toList_none, List.cons_append, List.nil_append, true_or, or_true, implies_true, nf, k_Court_howManyAre hc w3 w1, cnt 1 (by decide)]
  | 7, _ =>
    show zq_P (d + 3) 103 0 [.ref 0, .int 7] [] (zq_SG N, hi, hl, zq_HR ca cb cs) Q = _
    simp only [zr103_0, zr103_56, zr103_57, zr103_60, zr103_63, zr103_64, zr103_65, zr103_68, zr103_71, zr103_72, zr103_73, zr103_76, zr103_79, zr103_80, zr103_81, zr103_84, zr103_87, zr103_88, zr103_89, zr103_92, zr103_95, zr103_96, zr103_97, zr103_100, zr103_103, zr103_104, zr103_105, zr103_108, zr103_109, zr103_112, zr103_113, zr103_114, zr103_117, zr103_118, zr103_121, zr103_122, zr103_123, zr103_126, zr103_129, zr103_130, zr103_131, zr103_134, zr103_137, zr103_138, zr103_139, zr103_142, zr103_145, zr103_1_s0, zr103_1_s1, zr103_1_s2, zr103_1_s3, zr103_1_s4, zr103_1_s5, zr103_1_s6, zr103_1_s7, zr103_1_s8, zr103_1_s9, zs_x0 N, zh_x0 ca cb cs, hc2, zq_kill_int, zq_kill_ref, zq_kill_ret, zq_kill_null, zq_kill_long, zq_rf_some, zq_rf_none, true_and, and_true, true_implies, not_true_eq_false, not_false_eq_true, false_implies, Bool.true_eq_false, Bool.false_eq_true, nI_1, zb_i0, zb_i1, zb_i2, Option.toList_some, Option.toList_none, List.cons_append, List.nil_append, true_or, or_true, implies_true, nf, k_Court_howManyAre hc w3 w1, cnt 2 (by decide)]
  | 8, _ =>
    show zq_P (d + 3) 103 0 [.ref 0, .int 8] [] (zq_SG N, hi, hl, zq_HR ca cb cs) Q = _
    simp only [zr103_0, zr103_56, zr103_57, zr103_60, zr103_63, zr103_64, zr103_65, zr103_68, zr103_71, zr103_72, zr103_73, zr103_76, zr103_79, zr103_80, zr103_81, zr103_84, zr103_87, zr103_88, zr103_89, zr103_92, zr103_95, zr103_96, zr103_97, zr103_100, zr103_103, zr103_104, zr103_105, zr103_108, zr103_109, zr103_112, zr103_113, zr103_114, zr103_117, zr103_118, zr103_121, zr103_122, zr103_123, zr103_126, zr103_129, zr103_130, zr103_131, zr103_134, zr103_137, zr103_138, zr103_139, zr103_142, zr103_145, zr103_1_s0, zr103_1_s1, zr103_1_s2, zr103_1_s3, zr103_1_s4, zr103_1_s5, zr103_1_s6, zr103_1_s7, zr103_1_s8, zr103_1_s9, zs_x0 N, zh_x0 ca cb cs, zq_kill_int, zq_kill_ref, zq_kill_ret, zq_kill_null, zq_kill_long, zq_rf_some, zq_rf_none, true_and, and_true, true_implies, not_true_eq_false, not_false_eq_true, false_implies, Bool.true_eq_false, Bool.false_eq_true, nI_1, zb_i0, zb_i1, zb_i2, Option.toList_some, Option.toList_none, List.cons_append, List.nil_append, true_or, or_true, implies_true, nf, k_EF_howManyThere zq_Ss_rows (Nat.le_refl 6), th_8 hrw]
  | 9, _ =>
    show zq_P (d + 3) 103 0 [.ref 0, .int 9] [] (zq_SG N, hi, hl, zq_HR ca cb cs) Q = _
    simp only [zr103_0, zr103_56, zr103_57, zr103_60, zr103_63, zr103_64, zr103_65, zr103_68, zr103_71, zr103_72, zr103_73, zr103_76, zr103_79, zr103_80, zr103_81, zr103_84, zr103_87, zr103_88, zr103_89, zr103_92, zr103_95, zr103_96, zr103_97, zr103_100, zr103_103, zr103_104, zr103_105, zr103_108, zr103_109, zr103_112, zr103_113, zr103_114, zr103_117, zr103_118, zr103_121, zr103_122, zr103_123, zr103_126, zr103_129, zr103_130, zr103_131, zr103_134, zr103_137, zr103_138, zr103_139, zr103_142, zr103_145, zr103_1_s0, zr103_1_s1, zr103_1_s2, zr103_1_s3, zr103_1_s4, zr103_1_s5, zr103_1_s6, zr103_1_s7, zr103_1_s8, zr103_1_s9, zs_x0 N, zh_x0 ca cb cs, zq_kill_int, zq_kill_ref, zq_kill_ret, zq_kill_null, zq_kill_long, zq_rf_some, zq_rf_none, true_and, and_true, true_implies, not_true_eq_false, not_false_eq_true, false_implies, Bool.true_eq_false, Bool.false_eq_true, nI_1, zb_i0, zb_i1, zb_i2, Option.toList_some, Option.toList_none, List.cons_append, List.nil_append, true_or, or_true, implies_true, nf, k_EF_howManyThere zq_Ss_texts (show 4 ≤ 6 by omega), th_9 htx]
  | 10, _ =>
    show zq_P (d + 3) 103 0 [.ref 0, .int 10] [] (zq_SG N, hi, hl, zq_HR ca cb cs) Q = _
    simp only [zr103_0, zr103_56, zr103_57, zr103_60, zr103_63, zr103_64, zr103_65, zr103_68, zr103_71, zr103_72, zr103_73, zr103_76, zr103_79, zr103_80, zr103_81, zr103_84, zr103_87, zr103_88, zr103_89, zr103_92, zr103_95, zr103_96, zr103_97, zr103_100, zr103_103, zr103_104, zr103_105, zr103_108, zr103_109, zr103_112, zr103_113, zr103_114, zr103_117, zr103_118, zr103_121, zr103_122, zr103_123, zr103_126, zr103_129, zr103_130, zr103_131, zr103_134, zr103_137, zr103_138, zr103_139, zr103_142, zr103_145, zr103_1_s0, zr103_1_s1, zr103_1_s2, zr103_1_s3, zr103_1_s4, zr103_1_s5, zr103_1_s6, zr103_1_s7, zr103_1_s8, zr103_1_s9, zd103_1 (x := 10) (Or.inr (by decide)), zs_x0 N, zh_x0 ca cb cs, zq_kill_int, zq_kill_ref, zq_kill_ret, zq_kill_null, zq_kill_long, zq_rf_some, zq_rf_none, true_and, and_true, true_implies, not_true_eq_false, not_false_eq_true, false_implies, Bool.true_eq_false, Bool.false_eq_true, nI_1, zb_i0, zb_i1, zb_i2, Option.toList_some, Option.toList_none, List.cons_append, List.nil_append, true_or, or_true, implies_true, nf, k_EF_howManyThere zq_Ss_kept (show 3 ≤ 6 by omega), th_10 hdd]
end Z28
section Z28b
variable {N : Nat} {x z : Int32}
theorem p_count : zq_pair N 102 200 [.ref 0, .int x] [.ref 60, .int x] := by
  intro hi hl ca cb cs W P D h
  have hct := h.2.2.2.2.2.1
  obtain ⟨⟨w1, w2, w3, w4, w5, w6, -⟩, -⟩ := id hct
  have e1 : (x < 11) = ¬ 10 < x := by
    rw [Int32.lt_iff_toInt_lt, Int32.lt_iff_toInt_lt]
    show (x.toInt < 11) = ¬ (10 < x.toInt)
    apply propext; omega
  by_cases hx : ¬ x < 0 ∧ ¬ 10 < x
  · obtain ⟨j, hj, rfl⟩ := nI_of2 (x := x) (M := 10) (n := 10) (by decide) hx.1 (Int32.not_lt.mp hx.2)
    refine ⟨.int (nf hi W j), hi, hl, ca, cb, cs, hi, hl, W, P, D, fun Q => ?_, fun Q => ?_, h⟩
    · simp only [zr102_0, zr102_1, zr102_4, zr102_5, zr102_7, zr102_10, zr102_11, zr102_12, zr102_13, zr102_14, zr102_17, zs_x0 N, zh_x0 ca cb cs, zq_kill_int, zq_kill_ref, zq_kill_ret, zq_kill_null, zq_kill_long, zq_rf_some, zq_rf_none, true_and, and_true, true_implies, not_true_eq_false, not_false_eq_true, false_implies, Bool.true_eq_false, Bool.false_eq_true, nI_1, zb_i0, zb_i1, zb_i2, Option.toList_some, Option.toList_none, List.cons_append, List.nil_append, true_or, or_true, implies_true, hx, e1, k_EF_numberOf h (show j < 11 by omega)]
    · simp only [zr200_0, zr200_1, zr200_2, zr200_4, zr200_7, zr200_10, zr200_11, zr200_12, zr200_15, zr200_18, zr200_19, zs_m0 N, zs_m1 N, zs_m2 N, zh_m0 ca cb cs, zq_kill_int, zq_kill_ref, zq_kill_ret, zq_kill_null, zq_kill_long, zq_rf_some, zq_rf_none, true_and, and_true, true_implies, not_true_eq_false, not_false_eq_true, false_implies, Bool.true_eq_false, Bool.false_eq_true, nI_1, zb_i0, zb_i1, zb_i2, Option.toList_some, Option.toList_none, List.cons_append, List.nil_append, true_or, or_true, implies_true, k_M_in, zm_in, hx, and_self, decide_true, k_M_tells w4 w1 (show j < 11 by omega)]
  · refine ⟨.int (-1), hi, hl, ca, cb, cs, hi, hl, W, P, D, fun Q => ?_, fun Q => ?_, h⟩
    · simp only [zr102_0, zr102_1, zr102_4, zr102_5, zr102_7, zr102_10, zr102_11, zr102_12, zr102_13, zr102_14, zr102_17, zq_kill_int, zq_kill_ref, zq_kill_ret, zq_kill_null, zq_kill_long, zq_rf_some, zq_rf_none, true_and, and_true, true_implies, not_true_eq_false, not_false_eq_true, false_implies, Bool.true_eq_false, Bool.false_eq_true, nI_1, zb_i0, zb_i1, zb_i2, Option.toList_some, Option.toList_none, List.cons_append, List.nil_append, true_or, or_true, implies_true, e1]
      by_cases q1 : x < 0
      · simp [q1]
      · by_cases q2 : 10 < x
        · simp [q1, q2]
        · exact absurd ⟨q1, q2⟩ hx
    · simp only [zr200_0, zr200_1, zr200_2, zr200_4, zr200_7, zr200_10, zr200_11, zr200_12, zr200_15, zr200_18, zr200_19, zs_m0 N, zs_m1 N, zs_m2 N, zh_m0 ca cb cs, zq_kill_int, zq_kill_ref, zq_kill_ret, zq_kill_null, zq_kill_long, zq_rf_some, zq_rf_none, true_and, and_true, true_implies, not_true_eq_false, not_false_eq_true, false_implies, Bool.true_eq_false, Bool.false_eq_true, nI_1, zb_i0, zb_i1, zb_i2, Option.toList_some, Option.toList_none, List.cons_append, List.nil_append, true_or, or_true, implies_true, k_M_in, zm_in, hx, decide_false]
end Z28b
