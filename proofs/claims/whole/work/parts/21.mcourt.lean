/-! The reference: its court and its course -/
theorem zb_i2 (p : Bool) : (p = false ∨ zb_i p = 1) = True := by cases p <;> decide
section Z21
variable {N ca cb cs d n W : Nat} {hi : zq_I} {hl : zq_J} {Q : Option Value → zq_G → Prop} {day x z gone : Int32}
theorem zb_or0 (x : Int32) : x ||| 0 = x := by
  apply Int32.toBitVec_inj.mp
  simp
def zm_away (hi : zq_I) (day : Int32) (k : Nat) : Bool := decide (day - day / hi 67 k * hi 67 k = hi 68 k)
theorem k_M_awayOn (hp : hi 60 12 = nI n) (hn : n ≤ 3) (hz : ∀ k, k < n → ¬ hi 67 k = 0) : zq_P d 141 0 [.ref 60, .int day, .retAddr 0, .retAddr 0] [] (zq_SG N, hi, hl, zq_HR ca cb cs) Q = Q (some (.int (zb_set (zm_away hi day) n))) (zq_SG N, hi, hl, zq_HR ca cb cs) := by
  have loop : zq_P d 141 4 [.ref 60, .int day, .int (zb_set (zm_away hi day) 0), .int (nI 0)] [] (zq_SG N, hi, hl, zq_HR ca cb cs) Q = zq_P d 141 4 [.ref 60, .int day, .int (zb_set (zm_away hi day) n), .int (nI n)] [] (zq_SG N, hi, hl, zq_HR ca cb cs) Q := by
    refine zq_loop (f := fun k => zq_P d 141 4 [.ref 60, .int day, .int (zb_set (zm_away hi day) k), .int (nI k)] [] (zq_SG N, hi, hl, zq_HR ca cb cs) Q) fun k hk => ?_
    have h1 : zq_xS (nI k) 3 := zb_x (by omega) (by omega)
    have h2 : (nI k).toNatClampNeg = k := zb_cl (by omega)
    have h3 : (nI k < nI n) = True := eq_true ((nI_ltI (by omega) (by omega)).mpr hk)
    have h4 := hz k hk
    rw [zr141_4]
    simp only [zr141_0, zr141_1, zr141_2, zr141_3, zr141_5, zr141_6, zr141_9, zr141_12, zr141_13, zr141_14, zr141_15, zr141_18, zr141_19, zr141_20, zr141_21, zr141_22, zr141_25, zr141_26, zr141_27, zr141_30, zr141_31, zr141_32, zr141_33, zr141_36, zr141_37, zr141_38, zr141_39, zr141_42, zr141_45, zr141_46, zs_m0 N, zs_m1 N, zs_m2 N, zh_m0 ca cb cs, hp, h1, h2, h3, h4, zq_kill_int, zq_kill_ref, zq_kill_ret, zq_kill_null, zq_kill_long, zq_rf_some, zq_rf_none, true_and, and_true, true_implies, not_true_eq_false, not_false_eq_true, false_implies, Bool.true_eq_false, Bool.false_eq_true, nI_1, zb_i0, zb_i1, zb_i2, Option.toList_some, Option.toList_none, List.cons_append, List.nil_append, true_or, or_true, implies_true, zb_set_s, zm_away, decide_eq_true_eq, zb_or0]
    by_cases h5 : day - day / hi 67 k * hi 67 k = hi 68 k <;> simp [h5]
  have h3 : (nI n < nI n) = False := eq_false (nI_nlt (Nat.le_refl _) (by omega))
  simp only [zr141_0, zr141_1, zr141_2, zr141_3, zr141_5, zr141_6, zr141_9, zr141_12, zr141_13, zr141_14, zr141_15, zr141_18, zr141_19, zr141_20, zr141_21, zr141_22, zr141_25, zr141_26, zr141_27, zr141_30, zr141_31, zr141_32, zr141_33, zr141_36, zr141_37, zr141_38, zr141_39, zr141_42, zr141_45, zr141_46, zq_kill_int, zq_kill_ref, zq_kill_ret, zq_kill_null, zq_kill_long, zq_rf_some, zq_rf_none, true_and, and_true, true_implies, not_true_eq_false, not_false_eq_true, false_implies, Bool.true_eq_false, Bool.false_eq_true, nI_1, zb_i0, zb_i1, zb_i2, Option.toList_some, Option.toList_none, List.cons_append, List.nil_append, true_or, or_true, implies_true]
  refine Eq.trans loop ?_
  rw [zr141_4]
  simp only [zr141_0, zr141_1, zr141_2, zr141_3, zr141_5, zr141_6, zr141_9, zr141_12, zr141_13, zr141_14, zr141_15, zr141_18, zr141_19, zr141_20, zr141_21, zr141_22, zr141_25, zr141_26, zr141_27, zr141_30, zr141_31, zr141_32, zr141_33, zr141_36, zr141_37, zr141_38, zr141_39, zr141_42, zr141_45, zr141_46, zs_m0 N, zs_m1 N, zs_m2 N, zh_m0 ca cb cs, hp, h3, zq_kill_int, zq_kill_ref, zq_kill_ret, zq_kill_null, zq_kill_long, zq_rf_some, zq_rf_none, true_and, and_true, true_implies, not_true_eq_false, not_false_eq_true, false_implies, Bool.true_eq_false, Bool.false_eq_true, nI_1, zb_i0, zb_i1, zb_i2, Option.toList_some, Option.toList_none, List.cons_append, List.nil_append, true_or, or_true, implies_true]
def zm_riot (k : Int32) : Bool := decide (k = 1 ∨ k = 4)
def zm_mime (k : Int32) : Bool := decide (k = 2 ∨ k = 5)
theorem k_M_isRiot {g : zq_G} : zq_P d 147 0 [.int x] [] g Q = Q (some (.int (zb_i (zm_riot x)))) g := by
  obtain ⟨S, hi, hl, hr⟩ := g
  simp only [zr147_0, zr147_1, zr147_2, zr147_5, zr147_6, zr147_7, zr147_10, zr147_11, zr147_14, zr147_15, zm_riot, zb_i, decide_eq_true_eq]
  by_cases h0 : x = 1
  · simp [h0]
  · by_cases h1 : x = 4 <;> simp [h0, h1]
theorem k_M_isMimed {g : zq_G} : zq_P d 144 0 [.int x] [] g Q = Q (some (.int (zb_i (zm_mime x)))) g := by
  obtain ⟨S, hi, hl, hr⟩ := g
  simp only [zr144_0, zr144_1, zr144_2, zr144_5, zr144_6, zr144_7, zr144_10, zr144_11, zr144_14, zr144_15, zm_mime, zb_i, decide_eq_true_eq]
  by_cases h0 : x = 2
  · simp [h0]
  · by_cases h1 : x = 5 <;> simp [h0, h1]
def zm_nb (k s : Int32) : Int32 := if k = 4 then 0 else s
theorem k_M_needsBy {g : zq_G} : zq_P d 146 0 [.int x, .int z] [] g Q = Q (some (.int (zm_nb x z))) g := by
  obtain ⟨S, hi, hl, hr⟩ := g
  simp only [zr146_0, zr146_1, zr146_2, zr146_5, zr146_6, zr146_9, zr146_10, zm_nb]
  by_cases h0 : x = 4 <;> simp [h0]
def zm_needs (hi : zq_I) (w : Nat) : Int32 := zm_nb (hi 69 w) (hi 71 w)
theorem k_M_needs {w : Nat} (hw : w < 7) : zq_P (d + 1) 145 0 [.ref 60, .int (nI w)] [] (zq_SG N, hi, hl, zq_HR ca cb cs) Q = Q (some (.int (zm_needs hi w))) (zq_SG N, hi, hl, zq_HR ca cb cs) := by
  have h1 : zq_xS (nI w) 7 := zb_x (by omega) (by omega)
  have h2 : (nI w).toNatClampNeg = w := zb_cl (by omega)
  simp only [zr145_0, zr145_1, zr145_4, zr145_5, zr145_6, zr145_7, zr145_10, zr145_11, zr145_12, zr145_15, zs_m0 N, zs_m1 N, zs_m2 N, zh_m0 ca cb cs, h1, h2, zq_kill_int, zq_kill_ref, zq_kill_ret, zq_kill_null, zq_kill_long, zq_rf_some, zq_rf_none, true_and, and_true, true_implies, not_true_eq_false, not_false_eq_true, false_implies, Bool.true_eq_false, Bool.false_eq_true, nI_1, zb_i0, zb_i1, zb_i2, Option.toList_some, Option.toList_none, List.cons_append, List.nil_append, true_or, or_true, implies_true, k_M_needsBy, zm_needs]
def zm_tb (k v : Int32) : Int32 := if k = 4 then 2 * v else if zm_mime k = true then v / 2 else v
theorem k_M_troubleBy {g : zq_G} : zq_P (d + 1) 153 0 [.int x, .int z] [] g Q = Q (some (.int (zm_tb x z))) g := by
  obtain ⟨S, hi, hl, hr⟩ := g
  simp only [zr153_0, zr153_1, zr153_2, zr153_5, zr153_6, zr153_7, zr153_8, zr153_11, zr153_12, zr153_15, zr153_18, zr153_19, zr153_20, zr153_21, zr153_24, zr153_25, zm_tb, k_M_isMimed, zq_kill_int, zq_kill_ref, zq_kill_ret, zq_kill_null, zq_kill_long, zq_rf_some, zq_rf_none, true_and, and_true, true_implies, not_true_eq_false, not_false_eq_true, false_implies, Bool.true_eq_false, Bool.false_eq_true, nI_1, zb_i0, zb_i1, zb_i2, Option.toList_some, Option.toList_none, List.cons_append, List.nil_append, true_or, or_true, implies_true]
  by_cases h0 : x = 4
  · simp [h0]
  · by_cases h1 : zm_mime x = true <;> simp [h0, h1]
def zm_tr (hi : zq_I) (w : Nat) : Int32 := zm_tb (hi 69 w) (hi 70 w)
theorem k_M_troubleOf {w : Nat} (hw : w < 7) : zq_P (d + 2) 152 0 [.ref 60, .int (nI w)] [] (zq_SG N, hi, hl, zq_HR ca cb cs) Q = Q (some (.int (zm_tr hi w))) (zq_SG N, hi, hl, zq_HR ca cb cs) := by
  have h1 : zq_xS (nI w) 7 := zb_x (by omega) (by omega)
  have h2 : (nI w).toNatClampNeg = w := zb_cl (by omega)
  simp only [zr152_0, zr152_1, zr152_4, zr152_5, zr152_6, zr152_7, zr152_10, zr152_11, zr152_12, zr152_15, zs_m0 N, zs_m1 N, zs_m2 N, zh_m0 ca cb cs, h1, h2, zq_kill_int, zq_kill_ref, zq_kill_ret, zq_kill_null, zq_kill_long, zq_rf_some, zq_rf_none, true_and, and_true, true_implies, not_true_eq_false, not_false_eq_true, false_implies, Bool.true_eq_false, Bool.false_eq_true, nI_1, zb_i0, zb_i1, zb_i2, Option.toList_some, Option.toList_none, List.cons_append, List.nil_append, true_or, or_true, implies_true, k_M_troubleBy, zm_tr]
def zm_rest (hi : zq_I) (w : Nat) : Int32 := if zm_mime (hi 69 w) = true then hi 60 11 / 2 else hi 60 11
theorem k_M_restOf {w : Nat} (hw : w < 7) : zq_P (d + 1) 143 0 [.ref 60, .int (nI w)] [] (zq_SG N, hi, hl, zq_HR ca cb cs) Q = Q (some (.int (zm_rest hi w))) (zq_SG N, hi, hl, zq_HR ca cb cs) := by
  have h1 : zq_xS (nI w) 7 := zb_x (by omega) (by omega)
  have h2 : (nI w).toNatClampNeg = w := zb_cl (by omega)
  simp only [zr143_0, zr143_1, zr143_4, zr143_5, zr143_6, zr143_9, zr143_12, zr143_13, zr143_16, zr143_17, zr143_18, zr143_21, zr143_22, zr143_25, zs_m0 N, zs_m1 N, zs_m2 N, zh_m0 ca cb cs, h1, h2, zq_kill_int, zq_kill_ref, zq_kill_ret, zq_kill_null, zq_kill_long, zq_rf_some, zq_rf_none, true_and, and_true, true_implies, not_true_eq_false, not_false_eq_true, false_implies, Bool.true_eq_false, Bool.false_eq_true, nI_1, zb_i0, zb_i1, zb_i2, Option.toList_some, Option.toList_none, List.cons_append, List.nil_append, true_or, or_true, implies_true, k_M_isMimed, zm_rest]
  by_cases h1 : zm_mime (hi 69 w) = true <;> simp [h1]
/-- is there one -/
def zb_any (p : Nat → Bool) : Nat → Bool
  | 0 => false
  | n + 1 => zb_any p n || p n
theorem zb_any_s (p : Nat → Bool) (n : Nat) : zb_any p (n + 1) = (zb_any p n || p n) := rfl
def zm_ah (hi : zq_I) (r : Bool) (w : Nat) : Bool := decide (¬ hi 74 w = (-9) ∧ hi 74 w = hi 60 25 - 1) && (!r || zm_riot (hi 69 w))
theorem k_M_doneAhead {r : Bool} (hp : hi 60 10 = nI W) (hW : W ≤ 7) : zq_P (d + 1) 148 0 [.ref 60, .int (zb_i r), .retAddr 0, .retAddr 0] [] (zq_SG N, hi, hl, zq_HR ca cb cs) Q = Q (some (.int (zb_i (zb_any (zm_ah hi r) W)))) (zq_SG N, hi, hl, zq_HR ca cb cs) := by
  have loop : zq_P (d + 1) 148 4 [.ref 60, .int (zb_i r), .int (zb_i (zb_any (zm_ah hi r) 0)), .int (nI 0)] [] (zq_SG N, hi, hl, zq_HR ca cb cs) Q = zq_P (d + 1) 148 4 [.ref 60, .int (zb_i r), .int (zb_i (zb_any (zm_ah hi r) W)), .int (nI W)] [] (zq_SG N, hi, hl, zq_HR ca cb cs) Q := by
    refine zq_loop (f := fun k => zq_P (d + 1) 148 4 [.ref 60, .int (zb_i r), .int (zb_i (zb_any (zm_ah hi r) k)), .int (nI k)] [] (zq_SG N, hi, hl, zq_HR ca cb cs) Q) fun k hk => ?_
    have h1 : zq_xS (nI k) 7 := zb_x (by omega) (by omega)
    have h2 : (nI k).toNatClampNeg = k := zb_cl (by omega)
    have h3 : (nI k < nI W) = True := eq_true ((nI_ltI (by omega) (by omega)).mpr hk)
    rw [zr148_4]
    simp only [zr148_0, zr148_1, zr148_2, zr148_3, zr148_5, zr148_6, zr148_9, zr148_12, zr148_13, zr148_16, zr148_17, zr148_20, zr148_21, zr148_22, zr148_24, zr148_27, zr148_28, zr148_31, zr148_32, zr148_33, zr148_34, zr148_37, zr148_38, zr148_39, zr148_42, zr148_43, zr148_46, zr148_47, zr148_50, zr148_51, zr148_52, zr148_55, zr148_58, zr148_59, zr148_62, zr148_63, zr148_64, zr148_67, zr148_70, zr148_71, zs_m0 N, zs_m1 N, zs_m2 N, zh_m0 ca cb cs, hp, h1, h2, h3, zq_kill_int, zq_kill_ref, zq_kill_ret, zq_kill_null, zq_kill_long, zq_rf_some, zq_rf_none, true_and, and_true, true_implies, not_true_eq_false, not_false_eq_true, false_implies, Bool.true_eq_false, Bool.false_eq_true, nI_1, zb_i0, zb_i1, zb_i2, Option.toList_some, Option.toList_none, List.cons_append, List.nil_append, true_or, or_true, implies_true, k_M_isRiot, zb_any_s]
    by_cases h5 : hi 74 k = (-9) <;> by_cases h6 : hi 74 k = hi 60 25 - 1 <;> by_cases h7 : zm_riot (hi 69 k) = true <;> by_cases h8 : zb_any (zm_ah hi r) k = true <;> cases r <;> simp [h5, h6, h7, h8, zm_ah, zb_i]
    all_goals simp_all
  have h3 : (nI W < nI W) = False := eq_false (nI_nlt (Nat.le_refl _) (by omega))
  simp only [zr148_0, zr148_1, zr148_2, zr148_3, zr148_5, zr148_6, zr148_9, zr148_12, zr148_13, zr148_16, zr148_17, zr148_20, zr148_21, zr148_22, zr148_24, zr148_27, zr148_28, zr148_31, zr148_32, zr148_33, zr148_34, zr148_37, zr148_38, zr148_39, zr148_42, zr148_43, zr148_46, zr148_47, zr148_50, zr148_51, zr148_52, zr148_55, zr148_58, zr148_59, zr148_62, zr148_63, zr148_64, zr148_67, zr148_70, zr148_71, zq_kill_int, zq_kill_ref, zq_kill_ret, zq_kill_null, zq_kill_long, zq_rf_some, zq_rf_none, true_and, and_true, true_implies, not_true_eq_false, not_false_eq_true, false_implies, Bool.true_eq_false, Bool.false_eq_true, nI_1, zb_i0, zb_i1, zb_i2, Option.toList_some, Option.toList_none, List.cons_append, List.nil_append, true_or, or_true, implies_true]
  refine Eq.trans loop ?_
  rw [zr148_4]
  simp only [zr148_0, zr148_1, zr148_2, zr148_3, zr148_5, zr148_6, zr148_9, zr148_12, zr148_13, zr148_16, zr148_17, zr148_20, zr148_21, zr148_22, zr148_24, zr148_27, zr148_28, zr148_31, zr148_32, zr148_33, zr148_34, zr148_37, zr148_38, zr148_39, zr148_42, zr148_43, zr148_46, zr148_47, zr148_50, zr148_51, zr148_52, zr148_55, zr148_58, zr148_59, zr148_62, zr148_63, zr148_64, zr148_67, zr148_70, zr148_71, zs_m0 N, zs_m1 N, zs_m2 N, zh_m0 ca cb cs, hp, h3, zq_kill_int, zq_kill_ref, zq_kill_ret, zq_kill_null, zq_kill_long, zq_rf_some, zq_rf_none, true_and, and_true, true_implies, not_true_eq_false, not_false_eq_true, false_implies, Bool.true_eq_false, Bool.false_eq_true, nI_1, zb_i0, zb_i1, zb_i2, Option.toList_some, Option.toList_none, List.cons_append, List.nil_append, true_or, or_true, implies_true]
/-- may a way be done, if some are absent -/
def zm_can (hi : zq_I) (W : Nat) (gone : Int32) (w : Nat) : Bool :=
  decide (hi 74 w = (-9) ∨ zm_rest hi w < hi 60 25 - hi 74 w) && decide (zm_needs hi w &&& gone = 0) && !(zm_riot (hi 69 w) && zb_any (zm_ah hi true) W) &&
  (decide (¬ hi 69 w = 5 ∨ hi 60 25 - hi 60 25 / 5 * 5 = 0) && (decide (¬ hi 69 w = 3) || zb_any (zm_ah hi false) W))
theorem k_M_canWith {w : Nat} (hp : hi 60 10 = nI W) (hW : W ≤ 7) (hw : w < 7) : zq_P (d + 2) 142 0 [.ref 60, .int (nI w), .int gone] [] (zq_SG N, hi, hl, zq_HR ca cb cs) Q = Q (some (.int (zb_i (zm_can hi W gone w)))) (zq_SG N, hi, hl, zq_HR ca cb cs) := by
  have h1 : zq_xS (nI w) 7 := zb_x (by omega) (by omega)
  have h2 : (nI w).toNatClampNeg = w := zb_cl (by omega)
  have da1 := @k_M_doneAhead N ca cb cs d W hi hl
  have e1 : (1 : Int32) = zb_i true := rfl
  have e0 : (0 : Int32) = zb_i false := rfl
  have dT : ∀ Q, zq_P (d + 1) 148 0 [.ref 60, .int 1, .retAddr 0, .retAddr 0] [] (zq_SG N, hi, hl, zq_HR ca cb cs) Q = Q (some (.int (zb_i (zb_any (zm_ah hi true) W)))) (zq_SG N, hi, hl, zq_HR ca cb cs) := fun Q => da1 (r := true) hp hW
  have dF : ∀ Q, zq_P (d + 1) 148 0 [.ref 60, .int 0, .retAddr 0, .retAddr 0] [] (zq_SG N, hi, hl, zq_HR ca cb cs) Q = Q (some (.int (zb_i (zb_any (zm_ah hi false) W)))) (zq_SG N, hi, hl, zq_HR ca cb cs) := fun Q => da1 (r := false) hp hW
  simp only [zr142_0, zr142_1, zr142_4, zr142_5, zr142_6, zr142_8, zr142_11, zr142_12, zr142_15, zr142_16, zr142_19, zr142_20, zr142_21, zr142_22, zr142_23, zr142_24, zr142_27, zr142_30, zr142_31, zr142_32, zr142_33, zr142_34, zr142_37, zr142_38, zr142_39, zr142_42, zr142_43, zr142_46, zr142_47, zr142_48, zr142_51, zr142_54, zr142_55, zr142_56, zr142_59, zr142_62, zr142_63, zr142_64, zr142_65, zr142_68, zr142_69, zr142_70, zr142_71, zr142_74, zr142_75, zr142_78, zr142_79, zr142_80, zr142_83, zr142_84, zr142_87, zr142_88, zr142_89, zr142_90, zr142_93, zr142_94, zr142_95, zr142_98, zr142_101, zr142_102, zr142_105, zr142_106, zs_m0 N, zs_m1 N, zs_m2 N, zh_m0 ca cb cs, h1, h2, zq_kill_int, zq_kill_ref, zq_kill_ret, zq_kill_null, zq_kill_long, zq_rf_some, zq_rf_none, true_and, and_true, true_implies, not_true_eq_false, not_false_eq_true, false_implies, Bool.true_eq_false, Bool.false_eq_true, nI_1, zb_i0, zb_i1, zb_i2, Option.toList_some, Option.toList_none, List.cons_append, List.nil_append, true_or, or_true, implies_true, k_M_restOf hw, k_M_needs hw, k_M_isRiot, dT, dF, zm_can]
  by_cases a1 : hi 74 w = (-9) <;> by_cases a2 : zm_rest hi w < hi 60 25 - hi 74 w <;> by_cases a3 : zm_needs hi w &&& gone = 0 <;> by_cases a4 : zm_riot (hi 69 w) = true <;> by_cases a5 : zb_any (zm_ah hi true) W = true <;> simp [a1, a2, a3, a4, a5, zb_i]
  all_goals (by_cases a6 : hi 69 w = 5 <;> by_cases a7 : hi 60 25 - hi 60 25 / 5 * 5 = 0 <;> by_cases a8 : hi 69 w = 3 <;> by_cases a9 : zb_any (zm_ah hi false) W = true <;> simp [a6, a7, a8, a9])
theorem k_M_canDo {w n : Nat} (hp : hi 60 10 = nI W) (hW : W ≤ 7) (hw : w < 7) (hq : hi 60 12 = nI n) (hn : n ≤ 3) (hz : ∀ k, k < n → ¬ hi 67 k = 0) : zq_P (d + 3) 140 0 [.ref 60, .int (nI w)] [] (zq_SG N, hi, hl, zq_HR ca cb cs) Q = Q (some (.int (zb_i (zm_can hi W (zb_set (zm_away hi (hi 60 25)) n) w)))) (zq_SG N, hi, hl, zq_HR ca cb cs) := by
  simp only [zr140_0, zr140_1, zr140_2, zr140_3, zr140_4, zr140_7, zr140_10, zr140_13, zs_m0 N, zs_m1 N, zs_m2 N, zh_m0 ca cb cs, zq_kill_int, zq_kill_ref, zq_kill_ret, zq_kill_null, zq_kill_long, zq_rf_some, zq_rf_none, true_and, and_true, true_implies, not_true_eq_false, not_false_eq_true, false_implies, Bool.true_eq_false, Bool.false_eq_true, nI_1, zb_i0, zb_i1, zb_i2, Option.toList_some, Option.toList_none, List.cons_append, List.nil_append, true_or, or_true, implies_true, k_M_awayOn hq hn hz, k_M_canWith hp hW hw]
theorem k_M_canSet {n : Nat} (hp : hi 60 10 = nI W) (hW : W ≤ 7) (hq : hi 60 12 = nI n) (hn : n ≤ 3) (hz : ∀ k, k < n → ¬ hi 67 k = 0) : zq_P (d + 4) 168 0 [.ref 60, .retAddr 0, .retAddr 0] [] (zq_SG N, hi, hl, zq_HR ca cb cs) Q = Q (some (.int (zb_set (zm_can hi W (zb_set (zm_away hi (hi 60 25)) n)) W))) (zq_SG N, hi, hl, zq_HR ca cb cs) := by
  generalize hp2 : zm_can hi W (zb_set (zm_away hi (hi 60 25)) n) = pr
  have loop : zq_P (d + 4) 168 4 [.ref 60, .int (zb_set pr 0), .int (nI 0)] [] (zq_SG N, hi, hl, zq_HR ca cb cs) Q = zq_P (d + 4) 168 4 [.ref 60, .int (zb_set pr W), .int (nI W)] [] (zq_SG N, hi, hl, zq_HR ca cb cs) Q := by
    refine zq_loop (f := fun k => zq_P (d + 4) 168 4 [.ref 60, .int (zb_set pr k), .int (nI k)] [] (zq_SG N, hi, hl, zq_HR ca cb cs) Q) fun k hk => ?_
    have h2 : (nI k).toNatClampNeg = k := zb_cl (by omega)
    have h3 : (nI k < nI W) = True := eq_true ((nI_ltI (by omega) (by omega)).mpr hk)
    rw [zr168_4]
    simp only [zr168_0, zr168_1, zr168_2, zr168_3, zr168_5, zr168_6, zr168_9, zr168_12, zr168_13, zr168_14, zr168_15, zr168_18, zr168_21, zr168_22, zr168_23, zr168_24, zr168_27, zr168_28, zr168_29, zr168_30, zr168_33, zr168_36, zr168_37, zs_m0 N, zs_m1 N, zs_m2 N, zh_m0 ca cb cs, hp, h2, h3, zq_kill_int, zq_kill_ref, zq_kill_ret, zq_kill_null, zq_kill_long, zq_rf_some, zq_rf_none, true_and, and_true, true_implies, not_true_eq_false, not_false_eq_true, false_implies, Bool.true_eq_false, Bool.false_eq_true, nI_1, zb_i0, zb_i1, zb_i2, Option.toList_some, Option.toList_none, List.cons_append, List.nil_append, true_or, or_true, implies_true, k_M_canDo hp hW (show k < 7 by omega) hq hn hz, zb_set_s, zb_or0, hp2]
    by_cases h5 : pr k = true <;> simp [h5]
  have h3 : (nI W < nI W) = False := eq_false (nI_nlt (Nat.le_refl _) (by omega))
  simp only [zr168_0, zr168_1, zr168_2, zr168_3, zr168_5, zr168_6, zr168_9, zr168_12, zr168_13, zr168_14, zr168_15, zr168_18, zr168_21, zr168_22, zr168_23, zr168_24, zr168_27, zr168_28, zr168_29, zr168_30, zr168_33, zr168_36, zr168_37, zq_kill_int, zq_kill_ref, zq_kill_ret, zq_kill_null, zq_kill_long, zq_rf_some, zq_rf_none, true_and, and_true, true_implies, not_true_eq_false, not_false_eq_true, false_implies, Bool.true_eq_false, Bool.false_eq_true, nI_1, zb_i0, zb_i1, zb_i2, Option.toList_some, Option.toList_none, List.cons_append, List.nil_append, true_or, or_true, implies_true]
  refine Eq.trans loop ?_
  rw [zr168_4]
  simp only [zr168_0, zr168_1, zr168_2, zr168_3, zr168_5, zr168_6, zr168_9, zr168_12, zr168_13, zr168_14, zr168_15, zr168_18, zr168_21, zr168_22, zr168_23, zr168_24, zr168_27, zr168_28, zr168_29, zr168_30, zr168_33, zr168_36, zr168_37, zs_m0 N, zs_m1 N, zs_m2 N, zh_m0 ca cb cs, hp, h3, zq_kill_int, zq_kill_ref, zq_kill_ret, zq_kill_null, zq_kill_long, zq_rf_some, zq_rf_none, true_and, and_true, true_implies, not_true_eq_false, not_false_eq_true, false_implies, Bool.true_eq_false, Bool.false_eq_true, nI_1, zb_i0, zb_i1, zb_i2, Option.toList_some, Option.toList_none, List.cons_append, List.nil_append, true_or, or_true, implies_true]
/-- the reference's course: a way is done, he reigns -/
def zm_go (hi : zq_I) (w : Nat) : zq_I := zq_u (zq_u (zq_u (zq_u hi 60 26 (hi 60 26 + zm_tr hi w)) 74 w (hi 60 25)) 75 w (hi 75 w + 1)) 60 25 (hi 60 25 + 1)
def zm_re (hi : zq_I) : zq_I := zq_u (zq_u (zq_u hi 60 26 (hi 60 26 + 20)) 60 27 (hi 60 27 + 1)) 60 25 (hi 60 25 + 1)
theorem k_M_play {w : Nat} (hw : w < 7) : zq_P (d + 3) 151 0 [.ref 60, .int (nI w)] [] (zq_SG N, hi, hl, zq_HR ca cb cs) Q = Q none (zq_SG N, zm_go hi w, hl, zq_HR ca cb cs) := by
  have h1 : zq_xS (nI w) 7 := zb_x (by omega) (by omega)
  have h2 : (nI w).toNatClampNeg = w := zb_cl (by omega)
  simp only [zr151_0, zr151_1, zr151_2, zr151_5, zr151_6, zr151_7, zr151_10, zr151_11, zr151_14, zr151_15, zr151_18, zr151_19, zr151_20, zr151_23, zr151_24, zr151_25, zr151_28, zr151_29, zr151_30, zr151_31, zr151_32, zr151_33, zr151_34, zr151_35, zr151_36, zr151_39, zr151_40, zr151_41, zr151_44, zs_m0 N, zs_m1 N, zs_m2 N, zh_m0 ca cb cs, h1, h2, zq_kill_int, zq_kill_ref, zq_kill_ret, zq_kill_null, zq_kill_long, zq_rf_some, zq_rf_none, true_and, and_true, true_implies, not_true_eq_false, not_false_eq_true, false_implies, Bool.true_eq_false, Bool.false_eq_true, nI_1, zb_i0, zb_i1, zb_i2, Option.toList_some, Option.toList_none, List.cons_append, List.nil_append, true_or, or_true, implies_true, k_M_troubleOf hw]
  simp [zm_go, zq_u]
theorem k_M_reigns : zq_P d 155 0 [.ref 60] [] (zq_SG N, hi, hl, zq_HR ca cb cs) Q = Q none (zq_SG N, zm_re hi, hl, zq_HR ca cb cs) := by
  simp only [zr155_0, zr155_1, zr155_2, zr155_5, zr155_7, zr155_8, zr155_11, zr155_12, zr155_13, zr155_16, zr155_17, zr155_18, zr155_21, zr155_22, zr155_23, zr155_26, zr155_27, zr155_28, zr155_31, zs_m0 N, zs_m1 N, zs_m2 N, zh_m0 ca cb cs, zq_kill_int, zq_kill_ref, zq_kill_ret, zq_kill_null, zq_kill_long, zq_rf_some, zq_rf_none, true_and, and_true, true_implies, not_true_eq_false, not_false_eq_true, false_implies, Bool.true_eq_false, Bool.false_eq_true, nI_1, zb_i0, zb_i1, zb_i2, Option.toList_some, Option.toList_none, List.cons_append, List.nil_append, true_or, or_true, implies_true]
  simp [zm_re, zq_u]
end Z21
