/-! lasts -/
def bo (bt : Nat → Nat → Bool) (k : Nat) : Option Nat → Bool
  | none => true
  | some b => bt k b
theorem ddi_n : ddi none = -1 := rfl
theorem ddi_w (w : Nat) : ddi (some w) = nI w := rfl
def chs (p : Nat → Bool) (bt : Nat → Nat → Bool) : Nat → Option Nat
  | 0 => none
  | k + 1 => cond (p k && bo bt k (chs p bt k)) (some k) (chs p bt k)
theorem chs_s {p : Nat → Bool} {bt : Nat → Nat → Bool} {k : Nat} : chs p bt (k + 1) = cond (p k && bo bt k (chs p bt k)) (some k) (chs p bt k) := rfl
theorem chs_lt {p : Nat → Bool} {bt : Nat → Nat → Bool} {b : Nat} : ∀ {k : Nat}, chs p bt k = some b → b < k := by
  intro k
  induction k with
  | zero => intro h; cases h
  | succ k ih =>
    intro h
    rw [chs_s] at h
    cases hb : (p k && bo bt k (chs p bt k)) with
    | true => rw [hb] at h; cases h; omega
    | false => rw [hb] at h; have := ih h; omega
theorem chs_cong {p q : Nat → Bool} {bt bu : Nat → Nat → Bool} {W : Nat} (h : ∀ w, w < W → p w = q w) (h2 : ∀ w b, w < W → b < W → bt w b = bu w b) : ∀ k, k ≤ W → chs p bt k = chs q bu k := by
  intro k
  induction k with
  | zero => intro _; rfl
  | succ k ih =>
    intro hk
    rw [chs_s, chs_s, ih (by omega), h k (by omega)]
    cases e : chs q bu k with
    | none => rfl
    | some b =>
      have := chs_lt e
      simp only [bo, h2 k b (by omega) (by omega)]
def bC (C : zq_I) (c o : Nat) (x : Int32) (w b : Nat) : Bool := if x = 1 then decide (C (c + 6) w < C (c + 6) b) else decide (x = 2 ∧ C (o + 1) w < C (o + 1) b)
def bM (M : zq_I) (x : Int32) (w b : Nat) : Bool := if x = 1 then decide (zm_tr M w < zm_tr M b) else decide (x = 2 ∧ M 74 w < M 74 b)
def mmi : Option Nat → Int32
  | none => -9
  | some w => nI w
theorem mmi_w (w : Nat) : mmi (some w) = nI w := rfl
section Z44
variable {N ca cb cs c d W P D n w o : Nat} {hi C M : zq_I} {hl : zq_J} {Q : Option Value → zq_G → Prop} {x : Int32} {S : zq_S} {hr : zq_O}
theorem k_Course_isBetter {b : Nat} (hc : zq_Ct S hr c) (ho : zq_Co S hr o) (hw : w < 7) (hb : b < 7) : zq_P d 79 0 [.ref o, .ref c, .int x, .int (nI w), .int (nI b)] [] (S, C, hl, hr) Q = Q (some (.int (zb_i (bC C c o x w b)))) (S, C, hl, hr) := by
  have h1 : zq_xS (nI w) 7 := zb_x (by omega) (by omega)
  have h2 : (nI w).toNatClampNeg = w := zb_cl (by omega)
  have h3 : zq_xS (nI b) 7 := zb_x (by omega) (by omega)
  have h4 : (nI b).toNatClampNeg = b := zb_cl (by omega)
  unfold zq_Ct at hc
  unfold zq_Co at ho
  simp only [zr79_0, zr79_1, zr79_2, zr79_5, zr79_6, zr79_9, zr79_10, zr79_11, zr79_12, zr79_15, zr79_17, zr79_18, zr79_21, zr79_22, zr79_25, zr79_26, zr79_27, zr79_28, zr79_29, zr79_32, zr79_33, zr79_36, zr79_37, zr79_38, zr79_39, zr79_42, zr79_44, zr79_45, zr79_48, zr79_49, zr79_52, zr79_53, hc, ho, zq_kill_int, zq_kill_ref, zq_kill_ret, zq_kill_null, zq_kill_long, zq_rf_some, zq_rf_none, true_and, and_true, true_implies, not_true_eq_false, not_false_eq_true, false_implies, Bool.true_eq_false, Bool.false_eq_true, nI_1, zb_i0, zb_i1, zb_i2, Option.toList_some, Option.toList_none, List.cons_append, List.nil_append, true_or, or_true, implies_true, zb_it, zb_if, zb_10, zb_00, zb_n5, zb_n2, zb_m1, zb_m3, zb_m9, or_true, true_or, or_false, false_or, h1, h2, h3, h4, bC, zb_i]
  by_cases e1 : x = 1
  · by_cases q : C (c + 6) w < C (c + 6) b <;> simp [e1, q]
  · by_cases e2 : x = 2
    · by_cases q : C (o + 1) w < C (o + 1) b <;> simp [e2, q]
    · simp [e1, e2]
theorem k_Course_choose {p : Nat → Bool} (hc : zq_Ct S hr c) (ho : zq_Co S hr o) (hp : C c 10 = nI W) (hW : W ≤ 7) : zq_P (d + 1) 78 0 [.ref o, .ref c, .int x, .int (zb_set p W), .retAddr 0, .retAddr 0] [] (S, C, hl, hr) Q = Q (some (.int (ddi (chs p (bC C c o x) W)))) (S, C, hl, hr) := by
  have loop := zq_loop (n := W) (f := fun k => zq_P (d + 1) 78 6 [.ref o, .ref c, .int x, .int (zb_set p W), .int (ddi (chs p (bC C c o x) k)), .int (nI k)] [] (S, C, hl, hr) Q) fun k hk => by
    have h3 : (nI k < nI W) = True := eq_true ((nI_ltI (by omega) (by omega)).mpr hk)
    rw [zr78_6]
    show _ = zq_P (d + 1) 78 6 [.ref o, .ref c, .int x, .int (zb_set p W), .int (ddi (chs p (bC C c o x) (k + 1))), .int (nI (k + 1))] [] (S, C, hl, hr) Q
    rw [chs_s]
    cases e : chs p (bC C c o x) k with
    | none =>
      have q0 : (ddi none < 0) = True := eq_true (by decide)
      simp only [zr78_0, zr78_1, zr78_3, zr78_4, zr78_8, zr78_9, zr78_12, zr78_15, zr78_16, zr78_18, zr78_19, zr78_20, zr78_21, zr78_24, zr78_26, zr78_29, zr78_30, zr78_31, zr78_32, zr78_34, zr78_36, zr78_39, zr78_42, zr78_44, zr78_46, zr78_49, zr78_52, zr78_54, hc.1, ho.1, zq_kill_int, zq_kill_ref, zq_kill_ret, zq_kill_null, zq_kill_long, zq_rf_some, zq_rf_none, true_and, and_true, true_implies, not_true_eq_false, not_false_eq_true, false_implies, Bool.true_eq_false, Bool.false_eq_true, nI_1, zb_i0, zb_i1, zb_i2, Option.toList_some, Option.toList_none, List.cons_append, List.nil_append, true_or, or_true, implies_true, zb_it, zb_if, zb_10, zb_00, zb_n5, zb_n2, zb_m1, zb_m3, zb_m9, or_true, true_or, or_false, false_or, hp, h3, zb_bit hW hk, q0]
      cases p k <;> simp [bo, ddi]
    | some b =>
      have hb := chs_lt e
      have q0 : (ddi (some b) < 0) = False := eq_false (nI_pos (by omega))
      have kb := fun Q => k_Course_isBetter (Q := Q) (d := d) (hl := hl) (C := C) (x := x) hc ho (show k < 7 by omega) (show b < 7 by omega)
      simp only [zr78_0, zr78_1, zr78_3, zr78_4, zr78_8, zr78_9, zr78_12, zr78_15, zr78_16, zr78_18, zr78_19, zr78_20, zr78_21, zr78_24, zr78_26, zr78_29, zr78_30, zr78_31, zr78_32, zr78_34, zr78_36, zr78_39, zr78_42, zr78_44, zr78_46, zr78_49, zr78_52, zr78_54, hc.1, ho.1, zq_kill_int, zq_kill_ref, zq_kill_ret, zq_kill_null, zq_kill_long, zq_rf_some, zq_rf_none, true_and, and_true, true_implies, not_true_eq_false, not_false_eq_true, false_implies, Bool.true_eq_false, Bool.false_eq_true, nI_1, zb_i0, zb_i1, zb_i2, Option.toList_some, Option.toList_none, List.cons_append, List.nil_append, true_or, or_true, implies_true, zb_it, zb_if, zb_10, zb_00, zb_n5, zb_n2, zb_m1, zb_m3, zb_m9, or_true, true_or, or_false, false_or, hp, h3, zb_bit hW hk, q0]
      simp only [ddi_w, kb, zq_kill_int, zq_kill_ref, zq_kill_ret, zq_kill_null, zq_kill_long, zq_rf_some, zq_rf_none, true_and, and_true, true_implies, not_true_eq_false, not_false_eq_true, false_implies, Bool.true_eq_false, Bool.false_eq_true, nI_1, zb_i0, zb_i1, zb_i2, Option.toList_some, Option.toList_none, List.cons_append, List.nil_append, true_or, or_true, implies_true, zr78_0, zr78_1, zr78_3, zr78_4, zr78_8, zr78_9, zr78_12, zr78_15, zr78_16, zr78_18, zr78_19, zr78_20, zr78_21, zr78_24, zr78_26, zr78_29, zr78_30, zr78_31, zr78_32, zr78_34, zr78_36, zr78_39, zr78_42, zr78_44, zr78_46, zr78_49, zr78_52, zr78_54, bo]
      generalize bC C c o x k b = t
      cases p k <;> cases t <;> simp [ddi]
  have h3 : (nI W < nI W) = False := eq_false (nI_nlt (Nat.le_refl _) (by omega))
  simp only [zr78_0, zr78_1, zr78_3, zr78_4, zr78_8, zr78_9, zr78_12, zr78_15, zr78_16, zr78_18, zr78_19, zr78_20, zr78_21, zr78_24, zr78_26, zr78_29, zr78_30, zr78_31, zr78_32, zr78_34, zr78_36, zr78_39, zr78_42, zr78_44, zr78_46, zr78_49, zr78_52, zr78_54, zq_kill_int, zq_kill_ref, zq_kill_ret, zq_kill_null, zq_kill_long, zq_rf_some, zq_rf_none, true_and, and_true, true_implies, not_true_eq_false, not_false_eq_true, false_implies, Bool.true_eq_false, Bool.false_eq_true, nI_1, zb_i0, zb_i1, zb_i2, Option.toList_some, Option.toList_none, List.cons_append, List.nil_append, true_or, or_true, implies_true, zb_it, zb_if, zb_10, zb_00, zb_n5, zb_n2, zb_m1, zb_m3, zb_m9, or_true, true_or, or_false, false_or]
  refine Eq.trans loop ?_
  rw [zr78_6]
  simp only [zr78_0, zr78_1, zr78_3, zr78_4, zr78_8, zr78_9, zr78_12, zr78_15, zr78_16, zr78_18, zr78_19, zr78_20, zr78_21, zr78_24, zr78_26, zr78_29, zr78_30, zr78_31, zr78_32, zr78_34, zr78_36, zr78_39, zr78_42, zr78_44, zr78_46, zr78_49, zr78_52, zr78_54, hc.1, zq_kill_int, zq_kill_ref, zq_kill_ret, zq_kill_null, zq_kill_long, zq_rf_some, zq_rf_none, true_and, and_true, true_implies, not_true_eq_false, not_false_eq_true, false_implies, Bool.true_eq_false, Bool.false_eq_true, nI_1, zb_i0, zb_i1, zb_i2, Option.toList_some, Option.toList_none, List.cons_append, List.nil_append, true_or, or_true, implies_true, zb_it, zb_if, zb_10, zb_00, zb_n5, zb_n2, zb_m1, zb_m3, zb_m9, or_true, true_or, or_false, false_or, hp, h3]
theorem k_M_chosen (hp : M 60 10 = nI W) (hW : W ≤ 7) (hq : M 60 12 = nI P) (hP : P ≤ 3) (hz : ∀ k, k < P → ¬ M 67 k = 0) : zq_P (d + 4) 183 0 [.ref 60, .int x, .retAddr 0, .retAddr 0, .retAddr 0] [] (zq_SG N, M, hl, zq_HR ca cb cs) Q = Q (some (.int (mmi (chs (cano M W P) (bM M x) W)))) (zq_SG N, M, hl, zq_HR ca cb cs) := by
  have hcan : ∀ w, zm_can M W (zb_set (zm_away M (M 60 25)) P) w = cano M W P w := fun w => rfl
  have loop : ∀ v, zq_P (d + 4) 183 5 [.ref 60, .int x, .int (mmi (chs (cano M W P) (bM M x) 0)), .int (nI 0), v] [] (zq_SG N, M, hl, zq_HR ca cb cs) Q = Q (some (.int (mmi (chs (cano M W P) (bM M x) W)))) (zq_SG N, M, hl, zq_HR ca cb cs) := by
    refine zq_loopv (n := W) (f := fun k v => zq_P (d + 4) 183 5 [.ref 60, .int x, .int (mmi (chs (cano M W P) (bM M x) k)), .int (nI k), v] [] (zq_SG N, M, hl, zq_HR ca cb cs) Q) (fun v => ?_) (fun k hk v => ?_)
    · have h3 : (nI W < nI W) = False := eq_false (nI_nlt (Nat.le_refl _) (by omega))
      rw [zr183_5]
      simp only [zr183_0, zr183_2, zr183_3, zr183_4, zr183_6, zr183_7, zr183_10, zr183_13, zr183_14, zr183_16, zr183_19, zr183_20, zr183_21, zr183_24, zr183_25, zr183_26, zr183_29, zr183_30, zr183_31, zr183_34, zr183_37, zr183_38, zr183_39, zr183_42, zr183_43, zr183_46, zr183_47, zr183_48, zr183_49, zr183_52, zr183_53, zr183_54, zr183_57, zr183_58, zr183_61, zr183_62, zr183_64, zr183_66, zr183_69, zr183_70, zr183_71, zr183_74, zr183_77, zr183_78, zr183_81, zr183_82, zr183_83, zr183_86, zr183_89, zr183_90, zs_m0 N, zs_m1 N, zs_m2 N, zh_m0 ca cb cs, zq_kill_int, zq_kill_ref, zq_kill_ret, zq_kill_null, zq_kill_long, zq_rf_some, zq_rf_none, true_and, and_true, true_implies, not_true_eq_false, not_false_eq_true, false_implies, Bool.true_eq_false, Bool.false_eq_true, nI_1, zb_i0, zb_i1, zb_i2, Option.toList_some, Option.toList_none, List.cons_append, List.nil_append, true_or, or_true, implies_true, zb_it, zb_if, zb_10, zb_00, zb_n5, zb_n2, zb_m1, zb_m3, zb_m9, or_true, true_or, or_false, false_or, hp, h3]
    · have h3 : (nI k < nI W) = True := eq_true ((nI_ltI (by omega) (by omega)).mpr hk)
      have hk7 : k < 7 := by omega
      have cd := fun Q => k_M_canDo (N := N) (ca := ca) (cb := cb) (cs := cs) (d := d) (hl := hl) (Q := Q) hp hW hk7 hq hP hz
      have x1 : zq_xS (nI k) 7 := zb_x (by omega) (by omega)
      have x2 : (nI k).toNatClampNeg = k := zb_cl (by omega)
      cases e : chs (cano M W P) (bM M x) k with
      | none =>
        refine ⟨.int 1, ?_⟩
        rw [chs_s, e, zr183_5]
        have q0 : (mmi none = -9) = True := eq_true rfl
        simp only [zr183_0, zr183_2, zr183_3, zr183_4, zr183_6, zr183_7, zr183_10, zr183_13, zr183_14, zr183_16, zr183_19, zr183_20, zr183_21, zr183_24, zr183_25, zr183_26, zr183_29, zr183_30, zr183_31, zr183_34, zr183_37, zr183_38, zr183_39, zr183_42, zr183_43, zr183_46, zr183_47, zr183_48, zr183_49, zr183_52, zr183_53, zr183_54, zr183_57, zr183_58, zr183_61, zr183_62, zr183_64, zr183_66, zr183_69, zr183_70, zr183_71, zr183_74, zr183_77, zr183_78, zr183_81, zr183_82, zr183_83, zr183_86, zr183_89, zr183_90, zs_m0 N, zs_m1 N, zs_m2 N, zh_m0 ca cb cs, zq_kill_int, zq_kill_ref, zq_kill_ret, zq_kill_null, zq_kill_long, zq_rf_some, zq_rf_none, true_and, and_true, true_implies, not_true_eq_false, not_false_eq_true, false_implies, Bool.true_eq_false, Bool.false_eq_true, nI_1, zb_i0, zb_i1, zb_i2, Option.toList_some, Option.toList_none, List.cons_append, List.nil_append, true_or, or_true, implies_true, zb_it, zb_if, zb_10, zb_00, zb_n5, zb_n2, zb_m1, zb_m3, zb_m9, or_true, true_or, or_false, false_or, hp, h3, q0, cd, hcan]
        cases cano M W P k <;> simp [mmi, bo]
      | some b =>
        have hb := chs_lt e
        have hb7 : b < 7 := by omega
        have y1 : zq_xS (nI b) 7 := zb_x (by omega) (by omega)
        have y2 : (nI b).toNatClampNeg = b := zb_cl (by omega)
        have q0 : (mmi (some b) = -9) = False := eq_false fun q => by
          have h5 : nI b < 0 := by show mmi (some b) < 0; rw [q]; decide
          exact nI_pos (by omega) h5
        refine ⟨.int (zb_i (bM M x k b)), ?_⟩
        rw [chs_s, e, zr183_5]
        simp only [zr183_0, zr183_2, zr183_3, zr183_4, zr183_6, zr183_7, zr183_10, zr183_13, zr183_14, zr183_16, zr183_19, zr183_20, zr183_21, zr183_24, zr183_25, zr183_26, zr183_29, zr183_30, zr183_31, zr183_34, zr183_37, zr183_38, zr183_39, zr183_42, zr183_43, zr183_46, zr183_47, zr183_48, zr183_49, zr183_52, zr183_53, zr183_54, zr183_57, zr183_58, zr183_61, zr183_62, zr183_64, zr183_66, zr183_69, zr183_70, zr183_71, zr183_74, zr183_77, zr183_78, zr183_81, zr183_82, zr183_83, zr183_86, zr183_89, zr183_90, zs_m0 N, zs_m1 N, zs_m2 N, zh_m0 ca cb cs, zq_kill_int, zq_kill_ref, zq_kill_ret, zq_kill_null, zq_kill_long, zq_rf_some, zq_rf_none, true_and, and_true, true_implies, not_true_eq_false, not_false_eq_true, false_implies, Bool.true_eq_false, Bool.false_eq_true, nI_1, zb_i0, zb_i1, zb_i2, Option.toList_some, Option.toList_none, List.cons_append, List.nil_append, true_or, or_true, implies_true, zb_it, zb_if, zb_10, zb_00, zb_n5, zb_n2, zb_m1, zb_m3, zb_m9, or_true, true_or, or_false, false_or, hp, h3, q0]
        simp only [mmi_w, zr183_0, zr183_2, zr183_3, zr183_4, zr183_6, zr183_7, zr183_10, zr183_13, zr183_14, zr183_16, zr183_19, zr183_20, zr183_21, zr183_24, zr183_25, zr183_26, zr183_29, zr183_30, zr183_31, zr183_34, zr183_37, zr183_38, zr183_39, zr183_42, zr183_43, zr183_46, zr183_47, zr183_48, zr183_49, zr183_52, zr183_53, zr183_54, zr183_57, zr183_58, zr183_61, zr183_62, zr183_64, zr183_66, zr183_69, zr183_70, zr183_71, zr183_74, zr183_77, zr183_78, zr183_81, zr183_82, zr183_83, zr183_86, zr183_89, zr183_90, zs_m0 N, zs_m1 N, zs_m2 N, zh_m0 ca cb cs, zq_kill_int, zq_kill_ref, zq_kill_ret, zq_kill_null, zq_kill_long, zq_rf_some, zq_rf_none, true_and, and_true, true_implies, not_true_eq_false, not_false_eq_true, false_implies, Bool.true_eq_false, Bool.false_eq_true, nI_1, zb_i0, zb_i1, zb_i2, Option.toList_some, Option.toList_none, List.cons_append, List.nil_append, true_or, or_true, implies_true, zb_it, zb_if, zb_10, zb_00, zb_n5, zb_n2, zb_m1, zb_m3, zb_m9, or_true, true_or, or_false, false_or, k_M_troubleOf hk7, k_M_troubleOf hb7, x1, x2, y1, y2, cd, hcan, bM, bo]
        by_cases e1 : x = 1
        · by_cases q : zm_tr M k < zm_tr M b <;> cases cano M W P k <;> simp [e1, q, zb_i, mmi]
        · by_cases e2 : x = 2
          · by_cases q : M 74 k < M 74 b <;> cases cano M W P k <;> simp [e2, q, zb_i, mmi]
          · cases cano M W P k <;> simp [e1, e2, zb_i, mmi]
  simp only [zr183_0, zr183_2, zr183_3, zr183_4, zr183_6, zr183_7, zr183_10, zr183_13, zr183_14, zr183_16, zr183_19, zr183_20, zr183_21, zr183_24, zr183_25, zr183_26, zr183_29, zr183_30, zr183_31, zr183_34, zr183_37, zr183_38, zr183_39, zr183_42, zr183_43, zr183_46, zr183_47, zr183_48, zr183_49, zr183_52, zr183_53, zr183_54, zr183_57, zr183_58, zr183_61, zr183_62, zr183_64, zr183_66, zr183_69, zr183_70, zr183_71, zr183_74, zr183_77, zr183_78, zr183_81, zr183_82, zr183_83, zr183_86, zr183_89, zr183_90, zs_m0 N, zs_m1 N, zs_m2 N, zh_m0 ca cb cs, zq_kill_int, zq_kill_ref, zq_kill_ret, zq_kill_null, zq_kill_long, zq_rf_some, zq_rf_none, true_and, and_true, true_implies, not_true_eq_false, not_false_eq_true, false_implies, Bool.true_eq_false, Bool.false_eq_true, nI_1, zb_i0, zb_i1, zb_i2, Option.toList_some, Option.toList_none, List.cons_append, List.nil_append, true_or, or_true, implies_true, zb_it, zb_if, zb_10, zb_00, zb_n5, zb_n2, zb_m1, zb_m3, zb_m9, or_true, true_or, or_false, false_or]
  exact loop _
theorem Cor.chs (hca : ca = 36 ∨ ca = 45) (h : Cor ca W P D C M) : chs (cano M W P) (bC C ca 55 x) W = chs (cano M W P) (bM M x) W := by
  obtain ⟨⟨w1, w2, w3, w4, w5, w6⟩, cz, wa⟩ := h.facts hca
  refine chs_cong (fun _ _ => rfl) (fun w b hw hb => ?_) W (Nat.le_refl _)
  have l1 : ∀ v, v < W → C 56 v = M 74 v := fun v hv => by
    have := (h.2.2.1 v hv).1
    rw [jn_lo (a := 55 + 1) (by omega), jn_hi (a := 74) (by omega)] at this
    exact this
  unfold bC bM
  rw [(wa w hw).1, (wa b hb).1, show (55 + 1 : Nat) = 56 from rfl, l1 w hw, l1 b hb]
def lsn (W P : Nat) (x : Int32) (M : zq_I) (k : Nat) : Nat → Nat
  | 0 => k
  | m + 1 => match chs (cano M W P) (bM M x) W with
    | none => k
    | some w => lsn W P x (zm_go M w) (k + 1) m
def lsm (W P : Nat) (x : Int32) (M : zq_I) (s : Int32) : Nat → Int32
  | 0 => s
  | m + 1 => match chs (cano M W P) (bM M x) W with
    | none => s
    | some w => lsm W P x (zm_go M w) (s + zm_tr M w) m
theorem bM_jn {K : zq_I} : bM (jn K M) = bM M := by
  funext x w b
  unfold bM
  rw [zm_tr_fr (hi := M) (jn_hi (by omega)) (jn_hi (by omega)), jn_hi (by omega)]
theorem lsn_jn {K : zq_I} : ∀ m k (M : zq_I), lsn W P x (jn K M) k m = lsn W P x M k m := by
  intro m
  induction m with
  | zero => intros; rfl
  | succ m ih =>
    intro k M
    unfold lsn
    rw [cano_jn, bM_jn]
    cases chs (cano M W P) (bM M x) W with
    | none => rfl
    | some w => simp only [zm_go_jn, ih]
theorem lsm_jn {K : zq_I} : ∀ m s (M : zq_I), lsm W P x (jn K M) s m = lsm W P x M s m := by
  intro m
  induction m with
  | zero => intros; rfl
  | succ m ih =>
    intro k M
    unfold lsm
    rw [cano_jn, bM_jn]
    cases chs (cano M W P) (bM M x) W with
    | none => rfl
    | some w => simp only [zm_go_jn, ih, zm_tr_fr (hi := M) (hi2 := jn K M) (jn_hi (by omega)) (jn_hi (by omega))]
theorem zb_60 {k : Nat} (h : k ≤ 60) : (nI k < 60) = (k < 60) := zb_lt (b := 60) (by omega) (by omega)
theorem k_EF_lasts_loop (hca : ca = 36 ∨ ca = 45) : ∀ m k, k + m = 60 → ∀ D C M s v, D + m ≤ 200 → Cor ca W P D C M → C 55 4 = s →
    ∃ C2, cfr C C2 ∧ C2 55 4 = lsm W P x M s m ∧ ∃ v2, ∀ Q, zq_P (d + 5) 77 42 [.ref 0, .int x, .int (nI k), v] [] (zq_SG N, C, hl, zq_HR ca cb ca) Q = zq_P (d + 5) 77 99 [.ref 0, .int x, .int (nI (lsn W P x M k m)), v2] [] (zq_SG N, C2, hl, zq_HR ca cb ca) Q := by
  have hc := zq_Ct_ok (N := N) (ca := ca) (cb := cb) (cs := ca) hca
  have ho := zq_Co_ok (N := N) (ca := ca) (cb := cb) (cs := ca) (o := 55) (Or.inr rfl)
  intro m
  induction m with
  | zero =>
    intro k hk D C M s v hD hcor hs
    have h3 : (nI k < 60) = False := by rw [zb_60 (by omega)]; exact eq_false (by omega)
    refine ⟨C, cfr_rfl C, hs, v, fun Q => ?_⟩
    rw [zr77_42]
    simp only [zr77_0, zr77_1, zr77_4, zr77_5, zr77_6, zr77_9, zr77_10, zr77_11, zr77_12, zr77_15, zr77_18, zr77_21, zr77_23, zr77_24, zr77_25, zr77_28, zr77_29, zr77_32, zr77_33, zr77_36, zr77_37, zr77_40, zr77_41, zr77_43, zr77_45, zr77_48, zr77_49, zr77_52, zr77_55, zr77_56, zr77_59, zr77_60, zr77_61, zr77_64, zr77_67, zr77_70, zr77_71, zr77_72, zr77_75, zr77_78, zr77_79, zr77_82, zr77_85, zr77_86, zr77_89, zr77_90, zr77_93, zr77_96, zr77_100, zr77_101, zr77_104, zr77_107, zr77_110, zr77_113, zr77_114, zq_kill_int, zq_kill_ref, zq_kill_ret, zq_kill_null, zq_kill_long, zq_rf_some, zq_rf_none, true_and, and_true, true_implies, not_true_eq_false, not_false_eq_true, false_implies, Bool.true_eq_false, Bool.false_eq_true, nI_1, zb_i0, zb_i1, zb_i2, Option.toList_some, Option.toList_none, List.cons_append, List.nil_append, true_or, or_true, implies_true, zb_it, zb_if, zb_10, zb_00, zb_n5, zb_n2, zb_m1, zb_m3, zb_m9, or_true, true_or, or_false, false_or, h3, lsn]
  | succ m ih =>
    intro k hk D C M s v hD hcor hs
    have h3 : (nI k < 60) = True := by rw [zb_60 (by omega)]; exact eq_true (by omega)
    obtain ⟨⟨w1, w2, w3, w4, w5, w6⟩, -, wa⟩ := hcor.facts hca
    have ec := hcor.chs (x := x) hca
    cases e : chs (cano M W P) (bM M x) W with
    | none =>
      have q0 : (ddi none < 0) = True := eq_true (by decide)
      refine ⟨C, cfr_rfl C, by rw [hs]; unfold lsm; rw [e], .int (ddi none), fun Q => ?_⟩
      rw [zr77_42]
      unfold lsn
      rw [e]
      simp only [zr77_0, zr77_1, zr77_4, zr77_5, zr77_6, zr77_9, zr77_10, zr77_11, zr77_12, zr77_15, zr77_18, zr77_21, zr77_23, zr77_24, zr77_25, zr77_28, zr77_29, zr77_32, zr77_33, zr77_36, zr77_37, zr77_40, zr77_41, zr77_43, zr77_45, zr77_48, zr77_49, zr77_52, zr77_55, zr77_56, zr77_59, zr77_60, zr77_61, zr77_64, zr77_67, zr77_70, zr77_71, zr77_72, zr77_75, zr77_78, zr77_79, zr77_82, zr77_85, zr77_86, zr77_89, zr77_90, zr77_93, zr77_96, zr77_100, zr77_101, zr77_104, zr77_107, zr77_110, zr77_113, zr77_114, zs_x0 N, zs_q0 N, zh_q0 ca cb ca, zh_x0 ca cb ca, zq_kill_int, zq_kill_ref, zq_kill_ret, zq_kill_null, zq_kill_long, zq_rf_some, zq_rf_none, true_and, and_true, true_implies, not_true_eq_false, not_false_eq_true, false_implies, Bool.true_eq_false, Bool.false_eq_true, nI_1, zb_i0, zb_i1, zb_i2, Option.toList_some, Option.toList_none, List.cons_append, List.nil_append, true_or, or_true, implies_true, zb_it, zb_if, zb_10, zb_00, zb_n5, zb_n2, zb_m1, zb_m3, zb_m9, or_true, true_or, or_false, false_or, h3, k_Search_open hca hcor, k_Course_choose hc ho w3 w1, ec, e, q0]
    | some w =>
      have hw := chs_lt e
      have q0 : (ddi (some w) < 0) = False := eq_false (nI_pos (by omega))
      have hcor2 := hcor.go hca hw (by omega)
      have e4 : zc_go C ca 55 w 55 4 = s + zm_tr M w := by
        unfold zc_go
        rw [zq_u_kn (by omega), zq_u_kn (by omega), zq_u_eq, hs, (wa w hw).1]
      obtain ⟨C2, f1, f2, v2, f3⟩ := ih (k + 1) (by omega) (D + 1) _ _ _ (.int (nI w)) (by omega) hcor2 e4
      refine ⟨C2, cfr_tr cfr_go f1, by rw [f2]; show _ = lsm W P x M s (m + 1); rw [lsm, e], v2, fun Q => ?_⟩
      rw [zr77_42]
      show _ = zq_P (d + 5) 77 99 [.ref 0, .int x, .int (nI (lsn W P x M k (m + 1))), v2] [] (zq_SG N, C2, hl, zq_HR ca cb ca) Q
      rw [lsn, e]
      simp only [zr77_0, zr77_1, zr77_4, zr77_5, zr77_6, zr77_9, zr77_10, zr77_11, zr77_12, zr77_15, zr77_18, zr77_21, zr77_23, zr77_24, zr77_25, zr77_28, zr77_29, zr77_32, zr77_33, zr77_36, zr77_37, zr77_40, zr77_41, zr77_43, zr77_45, zr77_48, zr77_49, zr77_52, zr77_55, zr77_56, zr77_59, zr77_60, zr77_61, zr77_64, zr77_67, zr77_70, zr77_71, zr77_72, zr77_75, zr77_78, zr77_79, zr77_82, zr77_85, zr77_86, zr77_89, zr77_90, zr77_93, zr77_96, zr77_100, zr77_101, zr77_104, zr77_107, zr77_110, zr77_113, zr77_114, zs_x0 N, zs_q0 N, zh_q0 ca cb ca, zh_x0 ca cb ca, hc.1, zq_kill_int, zq_kill_ref, zq_kill_ret, zq_kill_null, zq_kill_long, zq_rf_some, zq_rf_none, true_and, and_true, true_implies, not_true_eq_false, not_false_eq_true, false_implies, Bool.true_eq_false, Bool.false_eq_true, nI_1, zb_i0, zb_i1, zb_i2, Option.toList_some, Option.toList_none, List.cons_append, List.nil_append, true_or, or_true, implies_true, zb_it, zb_if, zb_10, zb_00, zb_n5, zb_n2, zb_m1, zb_m3, zb_m9, or_true, true_or, or_false, false_or, h3, k_Search_open hca hcor, k_Course_choose hc ho w3 w1, ec, e, q0]
      simp only [ddi_w, k_Course_goOn hc ho (show 55 + 2 < ca ∨ ca + 8 < 55 by omega) w3 w1 hw, zr77_0, zr77_1, zr77_4, zr77_5, zr77_6, zr77_9, zr77_10, zr77_11, zr77_12, zr77_15, zr77_18, zr77_21, zr77_23, zr77_24, zr77_25, zr77_28, zr77_29, zr77_32, zr77_33, zr77_36, zr77_37, zr77_40, zr77_41, zr77_43, zr77_45, zr77_48, zr77_49, zr77_52, zr77_55, zr77_56, zr77_59, zr77_60, zr77_61, zr77_64, zr77_67, zr77_70, zr77_71, zr77_72, zr77_75, zr77_78, zr77_79, zr77_82, zr77_85, zr77_86, zr77_89, zr77_90, zr77_93, zr77_96, zr77_100, zr77_101, zr77_104, zr77_107, zr77_110, zr77_113, zr77_114, zq_kill_int, zq_kill_ref, zq_kill_ret, zq_kill_null, zq_kill_long, zq_rf_some, zq_rf_none, true_and, and_true, true_implies, not_true_eq_false, not_false_eq_true, false_implies, Bool.true_eq_false, Bool.false_eq_true, nI_1, zb_i0, zb_i1, zb_i2, Option.toList_some, Option.toList_none, List.cons_append, List.nil_append, true_or, or_true, implies_true, f3]
theorem zb_subadd (a b t : Int32) : a + t - b = (a - b) + t := by
  rw [Int32.sub_eq_add_neg, Int32.sub_eq_add_neg, Int32.add_assoc, Int32.add_assoc, Int32.add_comm t]
theorem k_M_lasts_loop {b0 : Int32} (hca : ca = 36 ∨ ca = 45) : ∀ m k, k + m = 60 → ∀ D C M s, D + m ≤ 200 → Cor ca W P D C M → M 60 26 - b0 = s →
    ∃ M2, mfr M M2 ∧ M2 60 26 - b0 = lsm W P x M s m ∧ ∀ Q, zq_P (d + 5) 182 32 [.ref 60, .int x, .int b0, .int (nI k), .retAddr 0] [] (zq_SG N, M, hl, zq_HR ca cb cs) Q = zq_P (d + 5) 182 63 [.ref 60, .int x, .int b0, .int (nI (lsn W P x M k m)), .retAddr 0] [] (zq_SG N, M2, hl, zq_HR ca cb cs) Q := by
  intro m
  induction m with
  | zero =>
    intro k hk D C M s hD hcor hs
    have h3 : (nI k < 60) = False := by rw [zb_60 (by omega)]; exact eq_false (by omega)
    refine ⟨M, mfr_rfl M, hs, fun Q => ?_⟩
    rw [zr182_32]
    simp only [zr182_0, zr182_1, zr182_2, zr182_3, zr182_6, zr182_9, zr182_10, zr182_11, zr182_12, zr182_15, zr182_18, zr182_20, zr182_21, zr182_22, zr182_25, zr182_26, zr182_27, zr182_30, zr182_31, zr182_33, zr182_35, zr182_38, zr182_39, zr182_40, zr182_43, zr182_45, zr182_48, zr182_49, zr182_50, zr182_51, zr182_54, zr182_57, zr182_60, zr182_64, zr182_67, zr182_68, zr182_69, zr182_71, zr182_72, zr182_75, zr182_76, zr182_78, zr182_79, zr182_82, zs_m0 N, zs_m1 N, zs_m2 N, zh_m0 ca cb cs, zq_kill_int, zq_kill_ref, zq_kill_ret, zq_kill_null, zq_kill_long, zq_rf_some, zq_rf_none, true_and, and_true, true_implies, not_true_eq_false, not_false_eq_true, false_implies, Bool.true_eq_false, Bool.false_eq_true, nI_1, zb_i0, zb_i1, zb_i2, Option.toList_some, Option.toList_none, List.cons_append, List.nil_append, true_or, or_true, implies_true, zb_it, zb_if, zb_10, zb_00, zb_n5, zb_n2, zb_m1, zb_m3, zb_m9, or_true, true_or, or_false, false_or, h3, lsn]
  | succ m ih =>
    intro k hk D C M s hD hcor hs
    have h3 : (nI k < 60) = True := by rw [zb_60 (by omega)]; exact eq_true (by omega)
    obtain ⟨⟨w1, w2, w3, w4, w5, w6⟩, cz, wa⟩ := hcor.facts hca
    cases e : chs (cano M W P) (bM M x) W with
    | none =>
      have q0 : (mmi none = -9) = True := eq_true rfl
      refine ⟨M, mfr_rfl M, by rw [hs]; unfold lsm; rw [e], fun Q => ?_⟩
      rw [zr182_32]
      unfold lsn
      rw [e]
      simp only [zr182_0, zr182_1, zr182_2, zr182_3, zr182_6, zr182_9, zr182_10, zr182_11, zr182_12, zr182_15, zr182_18, zr182_20, zr182_21, zr182_22, zr182_25, zr182_26, zr182_27, zr182_30, zr182_31, zr182_33, zr182_35, zr182_38, zr182_39, zr182_40, zr182_43, zr182_45, zr182_48, zr182_49, zr182_50, zr182_51, zr182_54, zr182_57, zr182_60, zr182_64, zr182_67, zr182_68, zr182_69, zr182_71, zr182_72, zr182_75, zr182_76, zr182_78, zr182_79, zr182_82, zs_m0 N, zs_m1 N, zs_m2 N, zh_m0 ca cb cs, zq_kill_int, zq_kill_ref, zq_kill_ret, zq_kill_null, zq_kill_long, zq_rf_some, zq_rf_none, true_and, and_true, true_implies, not_true_eq_false, not_false_eq_true, false_implies, Bool.true_eq_false, Bool.false_eq_true, nI_1, zb_i0, zb_i1, zb_i2, Option.toList_some, Option.toList_none, List.cons_append, List.nil_append, true_or, or_true, implies_true, zb_it, zb_if, zb_10, zb_00, zb_n5, zb_n2, zb_m1, zb_m3, zb_m9, or_true, true_or, or_false, false_or, h3, k_M_chosen w4 w1 w6 w2 cz, e, q0]
    | some w =>
      have hw := chs_lt e
      have hw7 : w < 7 := by omega
      have q0 : (mmi (some w) = -9) = False := eq_false fun q => by
        have h5 : nI w < 0 := by show mmi (some w) < 0; rw [q]; decide
        exact nI_pos (by omega) h5
      have hcor2 := hcor.go hca hw (by omega)
      have e4 : zm_go M w 60 26 - b0 = s + zm_tr M w := by
        unfold zm_go
        rw [zq_u_kn (by omega), zq_u_ne (by omega), zq_u_ne (by omega), zq_u_eq, ← hs]
        exact zb_subadd _ _ _
      obtain ⟨M2, f1, f2, f3⟩ := ih (k + 1) (by omega) (D + 1) _ _ _ (by omega) hcor2 e4
      refine ⟨M2, mfr_tr (mfr_go hw7) f1, by rw [f2]; show _ = lsm W P x M s (m + 1); rw [lsm, e], fun Q => ?_⟩
      rw [zr182_32]
      show _ = zq_P (d + 5) 182 63 [.ref 60, .int x, .int b0, .int (nI (lsn W P x M k (m + 1))), .retAddr 0] [] (zq_SG N, M2, hl, zq_HR ca cb cs) Q
      rw [lsn, e]
      simp only [zr182_0, zr182_1, zr182_2, zr182_3, zr182_6, zr182_9, zr182_10, zr182_11, zr182_12, zr182_15, zr182_18, zr182_20, zr182_21, zr182_22, zr182_25, zr182_26, zr182_27, zr182_30, zr182_31, zr182_33, zr182_35, zr182_38, zr182_39, zr182_40, zr182_43, zr182_45, zr182_48, zr182_49, zr182_50, zr182_51, zr182_54, zr182_57, zr182_60, zr182_64, zr182_67, zr182_68, zr182_69, zr182_71, zr182_72, zr182_75, zr182_76, zr182_78, zr182_79, zr182_82, zs_m0 N, zs_m1 N, zs_m2 N, zh_m0 ca cb cs, zq_kill_int, zq_kill_ref, zq_kill_ret, zq_kill_null, zq_kill_long, zq_rf_some, zq_rf_none, true_and, and_true, true_implies, not_true_eq_false, not_false_eq_true, false_implies, Bool.true_eq_false, Bool.false_eq_true, nI_1, zb_i0, zb_i1, zb_i2, Option.toList_some, Option.toList_none, List.cons_append, List.nil_append, true_or, or_true, implies_true, zb_it, zb_if, zb_10, zb_00, zb_n5, zb_n2, zb_m1, zb_m3, zb_m9, or_true, true_or, or_false, false_or, h3, k_M_chosen w4 w1 w6 w2 cz, e, q0]
      simp only [mmi_w, k_M_play hw7, zr182_0, zr182_1, zr182_2, zr182_3, zr182_6, zr182_9, zr182_10, zr182_11, zr182_12, zr182_15, zr182_18, zr182_20, zr182_21, zr182_22, zr182_25, zr182_26, zr182_27, zr182_30, zr182_31, zr182_33, zr182_35, zr182_38, zr182_39, zr182_40, zr182_43, zr182_45, zr182_48, zr182_49, zr182_50, zr182_51, zr182_54, zr182_57, zr182_60, zr182_64, zr182_67, zr182_68, zr182_69, zr182_71, zr182_72, zr182_75, zr182_76, zr182_78, zr182_79, zr182_82, zq_kill_int, zq_kill_ref, zq_kill_ret, zq_kill_null, zq_kill_long, zq_rf_some, zq_rf_none, true_and, and_true, true_implies, not_true_eq_false, not_false_eq_true, false_implies, Bool.true_eq_false, Bool.false_eq_true, nI_1, zb_i0, zb_i1, zb_i2, Option.toList_some, Option.toList_none, List.cons_append, List.nil_append, true_or, or_true, implies_true, f3]
end Z44
section Z44b
variable {N : Nat} {x z : Int32}
theorem p_lasts : zq_pair N 77 182 [.ref 0, .int x, .retAddr 0, .retAddr 0] [.ref 60, .int x, .retAddr 0, .retAddr 0, .retAddr 0] := by
  intro hi hl ca cb cs W P D h
  have hca := h.court
  have hc := zq_Ct_ok (N := N) (ca := ca) (cb := cb) (cs := cs) h.court
  obtain ⟨⟨w1, w2, w3, w4, w5, w6, -⟩, -, wa⟩ := id h.2.2.2.2.2.1
  by_cases hx : ¬ x < 0 ∧ ¬ 2 < x
  · have hin : zm_in x 0 2 = true := by unfold zm_in; rw [decide_eq_true_eq]; exact hx
    by_cases hW0 : W = 0
    · have e0 : (nI W = 0) = True := eq_true (by rw [hW0]; rfl)
      refine ⟨.int (-4), hi, hl, ca, cb, cs, hi, hl, W, P, D, fun Q => ?_, fun Q => ?_, h⟩
      · simp only [zr77_0, zr77_1, zr77_4, zr77_5, zr77_6, zr77_9, zr77_10, zr77_11, zr77_12, zr77_15, zr77_18, zr77_21, zr77_23, zr77_24, zr77_25, zr77_28, zr77_29, zr77_32, zr77_33, zr77_36, zr77_37, zr77_40, zr77_41, zr77_43, zr77_45, zr77_48, zr77_49, zr77_52, zr77_55, zr77_56, zr77_59, zr77_60, zr77_61, zr77_64, zr77_67, zr77_70, zr77_71, zr77_72, zr77_75, zr77_78, zr77_79, zr77_82, zr77_85, zr77_86, zr77_89, zr77_90, zr77_93, zr77_96, zr77_99, zr77_100, zr77_101, zr77_104, zr77_107, zr77_110, zr77_113, zr77_114, zs_x0 N, zh_x0 ca cb cs, hc.1, zq_kill_int, zq_kill_ref, zq_kill_ret, zq_kill_null, zq_kill_long, zq_rf_some, zq_rf_none, true_and, and_true, true_implies, not_true_eq_false, not_false_eq_true, false_implies, Bool.true_eq_false, Bool.false_eq_true, nI_1, zb_i0, zb_i1, zb_i2, Option.toList_some, Option.toList_none, List.cons_append, List.nil_append, true_or, or_true, implies_true, zb_it, zb_if, zb_10, zb_00, zb_n5, zb_n2, zb_m1, zb_m3, zb_m9, or_true, true_or, or_false, false_or, hx, w3, e0]
      · simp only [zr182_0, zr182_1, zr182_2, zr182_3, zr182_6, zr182_9, zr182_10, zr182_11, zr182_12, zr182_15, zr182_18, zr182_20, zr182_21, zr182_22, zr182_25, zr182_26, zr182_27, zr182_30, zr182_31, zr182_33, zr182_35, zr182_38, zr182_39, zr182_40, zr182_43, zr182_45, zr182_48, zr182_49, zr182_50, zr182_51, zr182_54, zr182_57, zr182_60, zr182_63, zr182_64, zr182_67, zr182_68, zr182_69, zr182_71, zr182_72, zr182_75, zr182_76, zr182_78, zr182_79, zr182_82, zs_m0 N, zs_m1 N, zs_m2 N, zh_m0 ca cb cs, zq_kill_int, zq_kill_ref, zq_kill_ret, zq_kill_null, zq_kill_long, zq_rf_some, zq_rf_none, true_and, and_true, true_implies, not_true_eq_false, not_false_eq_true, false_implies, Bool.true_eq_false, Bool.false_eq_true, nI_1, zb_i0, zb_i1, zb_i2, Option.toList_some, Option.toList_none, List.cons_append, List.nil_append, true_or, or_true, implies_true, zb_it, zb_if, zb_10, zb_00, zb_n5, zb_n2, zb_m1, zb_m3, zb_m9, or_true, true_or, or_false, false_or, k_M_in, hin, w4, e0]
    · have e0 : (nI W = 0) = False := eq_false (nI_ne0 (by omega) (by omega))
      have d0 := h.2.2.2.2.2.2.1.1
      obtain ⟨C0, b1, b2, b3, b4, -⟩ := k_Search_begin (N := N) (d := 56) (cb := cb) (cs := cs) (hl := hl) (n := 0) hca w3 w1 (by omega)
      have hcor := Cor.start h b2 b3 b4
      have hcor1 := hcor.wr hca (A := 79) (at' := 0) (by omega)
      obtain ⟨C2, c1, c3, v2, c2⟩ := k_EF_lasts_loop (N := N) (d := 53) (cb := cb) (hl := hl) (x := x) hca 60 0 (by omega) D C0 _ 0 (.retAddr 0) (by omega) hcor1 b3.2.2.1
      have f2 : ∀ a, a < 54 ∨ 57 < a → C2 a = hi a := fun a ha => by rw [c1 a ha, b2 a ha]
      generalize hv : lsm W P x (zm_wr hi 79 0) 0 60 = sm at c3
      have g2 : ∀ a, 60 ≤ a → zq_u C2 0 9 sm a = hi a := fun a ha => by rw [zq_u_ne (by omega), f2 a (by omega)]
      have hjn : zm_wr (zq_u C2 0 9 sm) 79 0 = jn (zq_u C2 0 9 sm) (zm_wr hi 79 0) := by
        have e : zq_u C2 0 9 sm = jn (zq_u C2 0 9 sm) hi := jn_of g2
        have e9 := zm_wr_jn (M := hi) (K := zq_u C2 0 9 sm) (A := 79) (at' := 0) (by omega)
        rw [← e] at e9
        exact e9
      have hcor2 := hcor1.jn (K := zq_u C2 0 9 sm)
      rw [← hjn] at hcor2
      have wo : ∀ a, a ≠ 79 → zm_wr (zq_u C2 0 9 sm) 79 0 a = zq_u C2 0 9 sm a := fun a ha => by unfold zm_wr; rw [zq_w_ne ha]
      have b26 : zq_u C2 0 9 sm 60 26 = hi 60 26 := by rw [g2 60 (by omega)]
      obtain ⟨M2, d1, d3, d2⟩ := k_M_lasts_loop (N := N) (d := 53) (cb := cb) (cs := ca) (hl := hl) (x := x) (b0 := hi 60 26) hca 60 0 (by omega) D C0 _ 0 (by omega) hcor2 (by rw [wo 60 (by omega), b26]; exact Int32.sub_self _)
      have e1 : lsn W P x (zm_wr (zq_u C2 0 9 sm) 79 0) 0 60 = lsn W P x (zm_wr hi 79 0) 0 60 := by rw [hjn]; exact lsn_jn _ _ _
      have e2 : lsm W P x (zm_wr (zq_u C2 0 9 sm) 79 0) 0 60 = sm := by rw [hjn, lsm_jn, hv]
      rw [e2] at d3
      refine ⟨.int (nI (lsn W P x (zm_wr hi 79 0) 0 60)), zq_u C2 0 9 sm, hl, ca, cb, ca, zq_u (zm_wr (zq_u C2 0 9 sm) 79 0) 60 2 sm, hl, W, P, D, fun Q => ?_, fun Q => ?_, ?_⟩
      · have b1' : ∀ Q, zq_P 57 64 0 [.ref 54, .ref ca, .ref 32, .int 0, .retAddr 0] [] (zq_SG N, hi, hl, zq_HR ca cb cs) Q = _ := b1
        have c2' : ∀ Q, zq_P (57 + 1) 77 42 [.ref 0, .int x, .int 0, .retAddr 0] [] (zq_SG N, C0, hl, zq_HR ca cb ca) Q = _ := c2
        simp only [zr77_0, zr77_1, zr77_4, zr77_5, zr77_6, zr77_9, zr77_10, zr77_11, zr77_12, zr77_15, zr77_18, zr77_21, zr77_23, zr77_24, zr77_25, zr77_28, zr77_29, zr77_32, zr77_33, zr77_36, zr77_37, zr77_40, zr77_41, zr77_43, zr77_45, zr77_48, zr77_49, zr77_52, zr77_55, zr77_56, zr77_59, zr77_60, zr77_61, zr77_64, zr77_67, zr77_70, zr77_71, zr77_72, zr77_75, zr77_78, zr77_79, zr77_82, zr77_85, zr77_86, zr77_89, zr77_90, zr77_93, zr77_96, zr77_100, zr77_101, zr77_104, zr77_107, zr77_110, zr77_113, zr77_114, zs_x0 N, zh_x0 ca cb cs, zs_q0 N, hc.1, zq_kill_int, zq_kill_ref, zq_kill_ret, zq_kill_null, zq_kill_long, zq_rf_some, zq_rf_none, true_and, and_true, true_implies, not_true_eq_false, not_false_eq_true, false_implies, Bool.true_eq_false, Bool.false_eq_true, nI_1, zb_i0, zb_i1, zb_i2, Option.toList_some, Option.toList_none, List.cons_append, List.nil_append, true_or, or_true, implies_true, zb_it, zb_if, zb_10, zb_00, zb_n5, zb_n2, zb_m1, zb_m3, zb_m9, or_true, true_or, or_false, false_or, hx, w3, e0, b1', c2']
        simp only [zr77_0, zr77_1, zr77_4, zr77_5, zr77_6, zr77_9, zr77_10, zr77_11, zr77_12, zr77_15, zr77_18, zr77_21, zr77_23, zr77_24, zr77_25, zr77_28, zr77_29, zr77_32, zr77_33, zr77_36, zr77_37, zr77_40, zr77_41, zr77_43, zr77_45, zr77_48, zr77_49, zr77_52, zr77_55, zr77_56, zr77_59, zr77_60, zr77_61, zr77_64, zr77_67, zr77_70, zr77_71, zr77_72, zr77_75, zr77_78, zr77_79, zr77_82, zr77_85, zr77_86, zr77_89, zr77_90, zr77_93, zr77_96, zr77_99, zr77_100, zr77_101, zr77_104, zr77_107, zr77_110, zr77_113, zr77_114, zs_x0 N, zs_q0 N, zh_q0 ca cb ca, zh_x0 ca cb ca, zq_kill_int, zq_kill_ref, zq_kill_ret, zq_kill_null, zq_kill_long, zq_rf_some, zq_rf_none, true_and, and_true, true_implies, not_true_eq_false, not_false_eq_true, false_implies, Bool.true_eq_false, Bool.false_eq_true, nI_1, zb_i0, zb_i1, zb_i2, Option.toList_some, Option.toList_none, List.cons_append, List.nil_append, true_or, or_true, implies_true, zb_it, zb_if, zb_10, zb_00, zb_n5, zb_n2, zb_m1, zb_m3, zb_m9, or_true, true_or, or_false, false_or, c3]
      · have m10 : zq_u C2 0 9 sm 60 10 = nI W := by rw [g2 60 (by omega)]; exact w4
        have d2' : ∀ Q, zq_P (57 + 1) 182 32 [.ref 60, .int x, .int (hi 60 26), .int 0, .retAddr 0] [] (zq_SG N, zm_wr (zq_u C2 0 9 sm) 79 0, hl, zq_HR ca cb ca) Q = _ := d2
        simp only [zr182_0, zr182_1, zr182_2, zr182_3, zr182_6, zr182_9, zr182_10, zr182_11, zr182_12, zr182_15, zr182_18, zr182_20, zr182_21, zr182_22, zr182_25, zr182_26, zr182_27, zr182_30, zr182_31, zr182_33, zr182_35, zr182_38, zr182_39, zr182_40, zr182_43, zr182_45, zr182_48, zr182_49, zr182_50, zr182_51, zr182_54, zr182_57, zr182_60, zr182_64, zr182_67, zr182_68, zr182_69, zr182_71, zr182_72, zr182_75, zr182_76, zr182_78, zr182_79, zr182_82, zs_m0 N, zs_m1 N, zs_m2 N, zh_m0 ca cb ca, zq_kill_int, zq_kill_ref, zq_kill_ret, zq_kill_null, zq_kill_long, zq_rf_some, zq_rf_none, true_and, and_true, true_implies, not_true_eq_false, not_false_eq_true, false_implies, Bool.true_eq_false, Bool.false_eq_true, nI_1, zb_i0, zb_i1, zb_i2, Option.toList_some, Option.toList_none, List.cons_append, List.nil_append, true_or, or_true, implies_true, zb_it, zb_if, zb_10, zb_00, zb_n5, zb_n2, zb_m1, zb_m3, zb_m9, or_true, true_or, or_false, false_or, k_M_in, hin, m10, e0, b26, k_M_begin, d2', e1]
        simp only [zr182_0, zr182_1, zr182_2, zr182_3, zr182_6, zr182_9, zr182_10, zr182_11, zr182_12, zr182_15, zr182_18, zr182_20, zr182_21, zr182_22, zr182_25, zr182_26, zr182_27, zr182_30, zr182_31, zr182_33, zr182_35, zr182_38, zr182_39, zr182_40, zr182_43, zr182_45, zr182_48, zr182_49, zr182_50, zr182_51, zr182_54, zr182_57, zr182_60, zr182_63, zr182_64, zr182_67, zr182_68, zr182_69, zr182_71, zr182_72, zr182_75, zr182_76, zr182_78, zr182_79, zr182_82, zr118_0, zr118_1, zr118_2, zr118_5, zr118_6, zs_m0 N, zs_m1 N, zs_m2 N, zh_m0 ca cb ca, zq_kill_int, zq_kill_ref, zq_kill_ret, zq_kill_null, zq_kill_long, zq_rf_some, zq_rf_none, true_and, and_true, true_implies, not_true_eq_false, not_false_eq_true, false_implies, Bool.true_eq_false, Bool.false_eq_true, nI_1, zb_i0, zb_i1, zb_i2, Option.toList_some, Option.toList_none, List.cons_append, List.nil_append, true_or, or_true, implies_true, zb_it, zb_if, zb_10, zb_00, zb_n5, zb_n2, zb_m1, zb_m3, zb_m9, or_true, true_or, or_false, false_or, d3, k_M_back, zm_rd_back d1]
      · refine h.search (C2 := zq_u C2 0 9 sm) (fun a ha a0 => by rw [zq_u_ne (by omega), f2 a (by omega)]) (by rw [zq_u_kn (by omega), f2 0 (by omega)]) (by rw [zq_u_eq, zq_u_eq]) (fun a ha => by rw [zq_u_ne (by omega), wo a (by omega)]) (fun a a1 a2 => by rw [zq_u_ne (by omega), wo a (by omega)]) (fun f f1 _ => by rw [zq_u_kn f1, wo 60 (by omega)]) h.2.2.1.2.1 h.2.2.1.2.2.1
  · refine ⟨.int (-1), hi, hl, ca, cb, cs, hi, hl, W, P, D, fun Q => ?_, fun Q => ?_, h⟩
    · simp only [zr77_0, zr77_1, zr77_4, zr77_5, zr77_6, zr77_9, zr77_10, zr77_11, zr77_12, zr77_15, zr77_18, zr77_21, zr77_23, zr77_24, zr77_25, zr77_28, zr77_29, zr77_32, zr77_33, zr77_36, zr77_37, zr77_40, zr77_41, zr77_43, zr77_45, zr77_48, zr77_49, zr77_52, zr77_55, zr77_56, zr77_59, zr77_60, zr77_61, zr77_64, zr77_67, zr77_70, zr77_71, zr77_72, zr77_75, zr77_78, zr77_79, zr77_82, zr77_85, zr77_86, zr77_89, zr77_90, zr77_93, zr77_96, zr77_99, zr77_100, zr77_101, zr77_104, zr77_107, zr77_110, zr77_113, zr77_114, zs_x0 N, zh_x0 ca cb cs, zq_kill_int, zq_kill_ref, zq_kill_ret, zq_kill_null, zq_kill_long, zq_rf_some, zq_rf_none, true_and, and_true, true_implies, not_true_eq_false, not_false_eq_true, false_implies, Bool.true_eq_false, Bool.false_eq_true, nI_1, zb_i0, zb_i1, zb_i2, Option.toList_some, Option.toList_none, List.cons_append, List.nil_append, true_or, or_true, implies_true, zb_it, zb_if, zb_10, zb_00, zb_n5, zb_n2, zb_m1, zb_m3, zb_m9, or_true, true_or, or_false, false_or]
      by_cases q1 : x < 0
      · simp [q1]
      · by_cases q2 : 2 < x
        · simp [q1, q2]
        · exact absurd ⟨q1, q2⟩ hx
    · simp only [zr182_0, zr182_1, zr182_2, zr182_3, zr182_6, zr182_9, zr182_10, zr182_11, zr182_12, zr182_15, zr182_18, zr182_20, zr182_21, zr182_22, zr182_25, zr182_26, zr182_27, zr182_30, zr182_31, zr182_33, zr182_35, zr182_38, zr182_39, zr182_40, zr182_43, zr182_45, zr182_48, zr182_49, zr182_50, zr182_51, zr182_54, zr182_57, zr182_60, zr182_63, zr182_64, zr182_67, zr182_68, zr182_69, zr182_71, zr182_72, zr182_75, zr182_76, zr182_78, zr182_79, zr182_82, zs_m0 N, zs_m1 N, zs_m2 N, zh_m0 ca cb cs, zq_kill_int, zq_kill_ref, zq_kill_ret, zq_kill_null, zq_kill_long, zq_rf_some, zq_rf_none, true_and, and_true, true_implies, not_true_eq_false, not_false_eq_true, false_implies, Bool.true_eq_false, Bool.false_eq_true, nI_1, zb_i0, zb_i1, zb_i2, Option.toList_some, Option.toList_none, List.cons_append, List.nil_append, true_or, or_true, implies_true, zb_it, zb_if, zb_10, zb_00, zb_n5, zb_n2, zb_m1, zb_m3, zb_m9, or_true, true_or, or_false, false_or, k_M_in, zm_in, hx, decide_false]
end Z44b
