/-! The court's and the course's own methods -/
/-- a court at c, with its rows behind it; a course at o -/
def zq_Ct (S : zq_S) (hr : zq_O) (c : Nat) : Prop := (zq_iS S c 1 ∧ zq_vS S c 1) ∧ (hr c 0 = some (c + 1) ∧ hr c 1 = some (c + 2) ∧ hr c 2 = some (c + 3) ∧ hr c 3 = some (c + 4) ∧ hr c 4 = some (c + 5) ∧ hr c 5 = some (c + 6) ∧ hr c 6 = some (c + 7) ∧ hr c 7 = some (c + 8)) ∧ (zq_aS S (c + 1) ∧ zq_aS S (c + 2) ∧ zq_aS S (c + 3) ∧ zq_aS S (c + 4) ∧ zq_aS S (c + 5) ∧ zq_aS S (c + 6) ∧ zq_aS S (c + 7) ∧ zq_aS S (c + 8)) ∧ (zq_aW S (c + 1) ∧ zq_aW S (c + 2) ∧ zq_aW S (c + 3) ∧ zq_aW S (c + 4) ∧ zq_aW S (c + 5) ∧ zq_aW S (c + 6) ∧ zq_aW S (c + 7) ∧ zq_aW S (c + 8)) ∧ (zq_ln S (c + 1) = 3 ∧ zq_ln S (c + 2) = 3 ∧ zq_ln S (c + 3) = 7 ∧ zq_ln S (c + 4) = 7 ∧ zq_ln S (c + 5) = 7 ∧ zq_ln S (c + 6) = 7 ∧ zq_ln S (c + 7) = 7 ∧ zq_ln S (c + 8) = 7)
def zq_Co (S : zq_S) (hr : zq_O) (o : Nat) : Prop := (zq_iS S o 0 ∧ zq_vS S o 0) ∧ (hr o 0 = some (o + 1) ∧ hr o 1 = some (o + 2)) ∧ (zq_aS S (o + 1) ∧ zq_aS S (o + 2)) ∧ (zq_aW S (o + 1) ∧ zq_aW S (o + 2)) ∧ (zq_ln S (o + 1) = 7 ∧ zq_ln S (o + 2) = 7) ∧ (zq_lS S (o + 1) ∧ zq_lS S (o + 2))
theorem zq_Ct_ok {N ca cb cs c : Nat} (hc : c = 36 ∨ c = 45) : zq_Ct (zq_SG N) (zq_HR ca cb cs) c := by
  unfold zq_Ct
  rcases hc with rfl | rfl
  · simp only [zs_c10 N, zh_c10 ca cb cs, and_self]
  · simp only [zs_c20 N, zh_c20 ca cb cs, and_self]
theorem zq_Co_ok {N ca cb cs o : Nat} (ho : o = 32 ∨ o = 55) : zq_Co (zq_SG N) (zq_HR ca cb cs) o := by
  unfold zq_Co
  rcases ho with rfl | rfl
  · simp only [zs_x0 N, zh_x0 ca cb cs, and_self]
  · simp only [zs_q0 N, zh_q0 ca cb cs, and_self]
/-- a truth as the machine has it -/
def zb_i (p : Bool) : Int32 := if p = true then 1 else 0
theorem zb_i0 (p : Bool) : (zb_i p = 0) = (p = false) := by cases p <;> decide
theorem zb_i1 (p : Bool) : (zb_i p = 0 ∨ zb_i p = 1) = True := by cases p <;> decide
theorem zb_ne {x : Int32} (h : 0 < x) : ¬ x = 0 := by rintro rfl; exact absurd h (by decide)
section Z20
variable {c o d n : Nat} {S : zq_S} {hr : zq_O} {hi : zq_I} {hl : zq_J} {Q : Option Value → zq_G → Prop} {day x b gone : Int32}
def zc_away (hi : zq_I) (c : Nat) (day : Int32) (k : Nat) : Bool := decide (0 < hi (c + 1) k ∧ day - day / hi (c + 1) k * hi (c + 1) k = hi (c + 2) k)
theorem k_Court_awayOn (hc : zq_Ct S hr c) (hp : hi c 9 = nI n) (hn : n ≤ 3) : zq_P d 44 0 [.ref c, .int day, .retAddr 0, .retAddr 0] [] (S, hi, hl, hr) Q = Q (some (.int (zb_set (zc_away hi c day) n))) (S, hi, hl, hr) := by
  unfold zq_Ct at hc
  have loop : zq_P d 44 4 [.ref c, .int day, .int (zb_set (zc_away hi c day) 0), .int (nI 0)] [] (S, hi, hl, hr) Q = zq_P d 44 4 [.ref c, .int day, .int (zb_set (zc_away hi c day) n), .int (nI n)] [] (S, hi, hl, hr) Q := by
    refine zq_loop (f := fun k => zq_P d 44 4 [.ref c, .int day, .int (zb_set (zc_away hi c day) k), .int (nI k)] [] (S, hi, hl, hr) Q) fun k hk => ?_
    have h1 : zq_xS (nI k) 3 := zb_x (by omega) (by omega)
    have h2 : (nI k).toNatClampNeg = k := zb_cl (by omega)
    have h3 : (nI k < nI n) = True := eq_true ((nI_ltI (by omega) (by omega)).mpr hk)
    rw [zr44_4]
    simp only [zr44_0, zr44_1, zr44_2, zr44_3, zr44_5, zr44_6, zr44_9, zr44_12, zr44_13, zr44_16, zr44_17, zr44_18, zr44_21, zr44_22, zr44_23, zr44_26, zr44_27, zr44_28, zr44_29, zr44_30, zr44_33, zr44_34, zr44_35, zr44_38, zr44_39, zr44_40, zr44_41, zr44_42, zr44_43, zr44_44, zr44_47, zr44_50, zr44_51, hc, hp, h1, h2, h3, zq_kill_int, zq_kill_ref, zq_rf_some, true_and, and_true, true_implies, not_true_eq_false, false_implies, nI_1, zb_set_s, zc_away, decide_eq_true_eq]
    by_cases h4 : 0 < hi (c + 1) k
    · by_cases h5 : day - day / hi (c + 1) k * hi (c + 1) k = hi (c + 2) k <;> simp [h4, h5, zb_ne h4]
    · simp [h4]
  have h3 : (nI n < nI n) = False := eq_false (nI_nlt (Nat.le_refl _) (by omega))
  simp only [zr44_0, zr44_1, zr44_2, zr44_3, zr44_5, zr44_6, zr44_9, zr44_12, zr44_13, zr44_16, zr44_17, zr44_18, zr44_21, zr44_22, zr44_23, zr44_26, zr44_27, zr44_28, zr44_29, zr44_30, zr44_33, zr44_34, zr44_35, zr44_38, zr44_39, zr44_40, zr44_41, zr44_42, zr44_43, zr44_44, zr44_47, zr44_50, zr44_51, zq_kill_int, zq_kill_ref, zq_kill_ret]
  refine Eq.trans loop ?_
  rw [zr44_4]
  simp only [zr44_0, zr44_1, zr44_2, zr44_3, zr44_5, zr44_6, zr44_9, zr44_12, zr44_13, zr44_16, zr44_17, zr44_18, zr44_21, zr44_22, zr44_23, zr44_26, zr44_27, zr44_28, zr44_29, zr44_30, zr44_33, zr44_34, zr44_35, zr44_38, zr44_39, zr44_40, zr44_41, zr44_42, zr44_43, zr44_44, zr44_47, zr44_50, zr44_51, hc, hp, h3, true_and, and_true, false_implies, not_false_eq_true, true_implies, zq_kill_int]
def zc_kindIs (k b : Int32) : Bool := decide (b = 0 ∨ k = b ∨ (b = 1 ∧ k = 4) ∨ (b = 2 ∧ k = 5))
theorem k_Court_kindIs : zq_P d 37 0 [.int x, .int b] [] (S, hi, hl, hr) Q = Q (some (.int (zb_i (zc_kindIs x b)))) (S, hi, hl, hr) := by
  simp only [zr37_0, zr37_1, zr37_4, zr37_5, zr37_6, zr37_9, zr37_10, zr37_11, zr37_12, zr37_13, zr37_16, zr37_17, zr37_18, zr37_21, zr37_22, zr37_25, zr37_26, zr37_29, zr37_30, zr37_31, zr37_34, zr37_35, zr37_36, zr37_39, zr37_40, zr37_43, zr37_44, zc_kindIs, zb_i, decide_eq_true_eq]
  by_cases h0 : b = 0
  · simp [h0]
  · by_cases h1 : x = b
    · simp [h0, h1]
    · by_cases h2 : b = 1
      · subst h2
        by_cases h4 : x = 4 <;> simp [h1, h4]
      · by_cases h3 : b = 2
        · subst h3
          by_cases h5 : x = 5 <;> simp [h1, h5]
        · simp [h0, h1, h2, h3]
def zc_fits (k day : Int32) : Bool := decide (¬ k = 5 ∨ day - day / 5 * 5 = 0)
theorem k_Court_fitsDay : zq_P d 47 0 [.int x, .int day] [] (S, hi, hl, hr) Q = Q (some (.int (zb_i (zc_fits x day)))) (S, hi, hl, hr) := by
  simp only [zr47_0, zr47_1, zr47_2, zr47_5, zr47_6, zr47_7, zr47_8, zr47_11, zr47_12, zr47_15, zr47_16, zc_fits, zb_i, decide_eq_true_eq]
  by_cases h0 : x = 5
  · by_cases h1 : day - day / 5 * 5 = 0 <;> simp [h0, h1]
  · simp [h0]
def zc_has (hi : zq_I) (c : Nat) (w : Int32) : Bool := decide (¬ w < 0 ∧ w < hi c 10)
theorem k_Court_hasWay (hc : zq_Ct S hr c) : zq_P d 41 0 [.ref c, .int x] [] (S, hi, hl, hr) Q = Q (some (.int (zb_i (zc_has hi c x)))) (S, hi, hl, hr) := by
  unfold zq_Ct at hc
  simp only [zr41_0, zr41_1, zr41_4, zr41_5, zr41_6, zr41_9, zr41_12, zr41_13, zr41_16, zr41_17, hc, zc_has, zb_i, decide_eq_true_eq, true_and]
  by_cases h0 : x < 0
  · simp [h0]
  · by_cases h1 : x < hi c 10 <;> simp [h0, h1]
theorem k_Court_isOf (hc : zq_Ct S hr c) (hx : zq_xS x 7) : zq_P (d + 1) 48 0 [.ref c, .int x, .int b] [] (S, hi, hl, hr) Q = Q (some (.int (zb_i (zc_kindIs (hi (c + 3) x.toNatClampNeg) b)))) (S, hi, hl, hr) := by
  unfold zq_Ct at hc
  simp only [zr48_0, zr48_1, zr48_4, zr48_5, zr48_6, zr48_7, zr48_10, hc, hx, k_Court_kindIs, zq_rf_some, true_and, Option.toList_some, List.cons_append, List.nil_append, zb_i1]
/-- how many -/
def zb_cnt (p : Nat → Bool) : Nat → Int32
  | 0 => 0
  | n + 1 => if p n = true then zb_cnt p n + 1 else zb_cnt p n
theorem zb_cnt_s (p : Nat → Bool) (n : Nat) : zb_cnt p (n + 1) = if p n = true then zb_cnt p n + 1 else zb_cnt p n := rfl
theorem k_Court_howManyAre (hc : zq_Ct S hr c) (hp : hi c 10 = nI n) (hn : n ≤ 7) : zq_P (d + 2) 50 0 [.ref c, .int b, .retAddr 0, .retAddr 0] [] (S, hi, hl, hr) Q = Q (some (.int (zb_cnt (fun w => zc_kindIs (hi (c + 3) w) b) n))) (S, hi, hl, hr) := by
  have hc0 := hc
  unfold zq_Ct at hc
  have loop : zq_P (d + 2) 50 4 [.ref c, .int b, .int (zb_cnt (fun w => zc_kindIs (hi (c + 3) w) b) 0), .int (nI 0)] [] (S, hi, hl, hr) Q = zq_P (d + 2) 50 4 [.ref c, .int b, .int (zb_cnt (fun w => zc_kindIs (hi (c + 3) w) b) n), .int (nI n)] [] (S, hi, hl, hr) Q := by
    refine zq_loop (f := fun k => zq_P (d + 2) 50 4 [.ref c, .int b, .int (zb_cnt (fun w => zc_kindIs (hi (c + 3) w) b) k), .int (nI k)] [] (S, hi, hl, hr) Q) fun k hk => ?_
    have h1 : zq_xS (nI k) 7 := zb_x (by omega) (by omega)
    have h2 : (nI k).toNatClampNeg = k := zb_cl (by omega)
    have h3 : (nI k < nI n) = True := eq_true ((nI_ltI (by omega) (by omega)).mpr hk)
    rw [zr50_4]
    simp only [zr50_0, zr50_1, zr50_2, zr50_3, zr50_5, zr50_6, zr50_9, zr50_12, zr50_13, zr50_14, zr50_15, zr50_18, zr50_21, zr50_24, zr50_27, zr50_30, zr50_31, hc, hp, h1, h2, h3, k_Court_isOf hc0, zq_kill_int, zq_kill_ref, zq_rf_some, true_and, and_true, true_implies, not_true_eq_false, false_implies, nI_1, zb_cnt_s, zb_i0, Option.toList_some, List.cons_append, List.nil_append]
    by_cases h4 : zc_kindIs (hi (c + 3) k) b = true <;> simp [h4]
  have h3 : (nI n < nI n) = False := eq_false (nI_nlt (Nat.le_refl _) (by omega))
  simp only [zr50_0, zr50_1, zr50_2, zr50_3, zr50_5, zr50_6, zr50_9, zr50_12, zr50_13, zr50_14, zr50_15, zr50_18, zr50_21, zr50_24, zr50_27, zr50_30, zr50_31, zq_kill_int, zq_kill_ref, zq_kill_ret]
  refine Eq.trans loop ?_
  rw [zr50_4]
  simp only [zr50_0, zr50_1, zr50_2, zr50_3, zr50_5, zr50_6, zr50_9, zr50_12, zr50_13, zr50_14, zr50_15, zr50_18, zr50_21, zr50_24, zr50_27, zr50_30, zr50_31, hc, hp, h3, true_and, and_true, false_implies, not_false_eq_true, true_implies, zq_kill_int]
/-- may a way come now, whoever is away -/
def zc_ripe (hi : zq_I) (c o w : Nat) : Bool :=
  decide (hi (o + 1) w = (-9) ∨ hi (c + 8) w < hi o 2 - hi (o + 1) w) && zc_fits (hi (c + 3) w) (hi o 2) &&
  (if hi (c + 3) w = 3 then decide (¬ hi o 3 = (-1)) else !zc_kindIs (hi (c + 3) w) 1 || !zc_has hi c (hi o 3) || !zc_kindIs (hi (c + 3) (hi o 3).toNatClampNeg) 1)
theorem zb_has_x {W : Nat} (hp : hi c 10 = nI W) (hn : W ≤ 7) (h : zc_has hi c x = true) : zq_xS x 7 := by
  unfold zc_has at h
  rw [hp] at h
  simp only [decide_eq_true_eq] at h
  obtain ⟨h1, h2⟩ := h
  obtain ⟨j, hj, rfl⟩ := nI_of h1
  exact zb_x (by have := (nI_ltI (by omega) (by omega)).mp h2; omega) (by omega)
theorem k_Course_isRipe {w W : Nat} (hc : zq_Ct S hr c) (ho : zq_Co S hr o) (hp : hi c 10 = nI W) (hW : W ≤ 7) (hw : w < 7) : zq_P (d + 2) 46 0 [.ref o, .ref c, .int (nI w)] [] (S, hi, hl, hr) Q = Q (some (.int (zb_i (zc_ripe hi c o w)))) (S, hi, hl, hr) := by
  have hc0 := hc
  unfold zq_Ct at hc
  unfold zq_Co at ho
  have h1 : zq_xS (nI w) 7 := zb_x (by omega) (by omega)
  have h2 : (nI w).toNatClampNeg = w := zb_cl (by omega)
  by_cases hh : zc_has hi c (hi o 3) = true
  · have hx := zb_has_x hp hW hh
    simp only [zr46_0, zr46_1, zr46_4, zr46_5, zr46_6, zr46_8, zr46_11, zr46_12, zr46_15, zr46_16, zr46_19, zr46_20, zr46_21, zr46_22, zr46_23, zr46_26, zr46_27, zr46_28, zr46_31, zr46_32, zr46_33, zr46_34, zr46_37, zr46_38, zr46_39, zr46_40, zr46_43, zr46_46, zr46_49, zr46_50, zr46_51, zr46_52, zr46_55, zr46_56, zr46_57, zr46_58, zr46_61, zr46_62, zr46_65, zr46_66, zr46_69, zr46_70, zr46_73, zr46_74, zr46_75, zr46_76, zr46_77, zr46_78, zr46_81, zr46_84, zr46_85, zr46_86, zr46_89, zr46_92, zr46_95, zr46_96, zr46_97, zr46_100, zr46_101, zr46_104, zr46_107, zr46_108, zr46_111, zr46_112, hc, ho, h1, h2, hx, hh, k_Court_fitsDay, k_Court_isOf hc0, k_Court_hasWay hc0, zq_rf_some, true_and, and_true, zb_i0, Option.toList_some, List.cons_append, List.nil_append, true_or, or_true, Bool.true_eq_false, false_implies, not_false_eq_true, true_implies, zc_ripe]
    cases h3 : zc_fits (hi (c + 3) w) (hi o 2) <;> cases h4 : zc_kindIs (hi (c + 3) w) 1 <;> cases h5 : zc_kindIs (hi (c + 3) (hi o 3).toNatClampNeg) 1 <;> by_cases h6 : hi (o + 1) w = (-9) <;> by_cases h7 : hi (c + 8) w < hi o 2 - hi (o + 1) w <;> by_cases h8 : hi (c + 3) w = 3 <;> by_cases h9 : hi o 3 = (-1) <;> simp [h6, h7, h8, h9, zb_i]
  · have hh2 : zc_has hi c (hi o 3) = false := by simpa using hh
    simp only [zr46_0, zr46_1, zr46_4, zr46_5, zr46_6, zr46_8, zr46_11, zr46_12, zr46_15, zr46_16, zr46_19, zr46_20, zr46_21, zr46_22, zr46_23, zr46_26, zr46_27, zr46_28, zr46_31, zr46_32, zr46_33, zr46_34, zr46_37, zr46_38, zr46_39, zr46_40, zr46_43, zr46_46, zr46_49, zr46_50, zr46_51, zr46_52, zr46_55, zr46_56, zr46_57, zr46_58, zr46_61, zr46_62, zr46_65, zr46_66, zr46_69, zr46_70, zr46_73, zr46_74, zr46_75, zr46_76, zr46_77, zr46_78, zr46_81, zr46_84, zr46_85, zr46_86, zr46_89, zr46_92, zr46_95, zr46_96, zr46_97, zr46_100, zr46_101, zr46_104, zr46_107, zr46_108, zr46_111, zr46_112, hc, ho, h1, h2, hh2, k_Court_fitsDay, k_Court_isOf hc0, k_Court_hasWay hc0, zq_rf_some, true_and, and_true, zb_i0, Option.toList_some, List.cons_append, List.nil_append, true_or, or_true, not_true_eq_false, false_implies, not_false_eq_true, true_implies, zc_ripe]
    cases h3 : zc_fits (hi (c + 3) w) (hi o 2) <;> cases h4 : zc_kindIs (hi (c + 3) w) 1 <;> by_cases h6 : hi (o + 1) w = (-9) <;> by_cases h7 : hi (c + 8) w < hi o 2 - hi (o + 1) w <;> by_cases h8 : hi (c + 3) w = 3 <;> by_cases h9 : hi o 3 = (-1) <;> simp [h6, h7, h8, h9, zb_i]
/-- which ways are open, if some are gone -/
def zc_open (hi : zq_I) (c o : Nat) (gone : Int32) (w : Nat) : Bool := decide (hi (c + 7) w &&& gone = 0) && zc_ripe hi c o w
theorem k_Course_openWays {W : Nat} (hc : zq_Ct S hr c) (ho : zq_Co S hr o) (hp : hi c 10 = nI W) (hW : W ≤ 7) : zq_P (d + 3) 45 0 [.ref o, .ref c, .int gone, .retAddr 0, .retAddr 0] [] (S, hi, hl, hr) Q = Q (some (.int (zb_set (zc_open hi c o gone) W))) (S, hi, hl, hr) := by
  have hc0 := hc
  have ho0 := ho
  unfold zq_Ct at hc
  unfold zq_Co at ho
  have loop : zq_P (d + 3) 45 5 [.ref o, .ref c, .int gone, .int (zb_set (zc_open hi c o gone) 0), .int (nI 0)] [] (S, hi, hl, hr) Q = zq_P (d + 3) 45 5 [.ref o, .ref c, .int gone, .int (zb_set (zc_open hi c o gone) W), .int (nI W)] [] (S, hi, hl, hr) Q := by
    refine zq_loop (f := fun k => zq_P (d + 3) 45 5 [.ref o, .ref c, .int gone, .int (zb_set (zc_open hi c o gone) k), .int (nI k)] [] (S, hi, hl, hr) Q) fun k hk => ?_
    have h1 : zq_xS (nI k) 7 := zb_x (by omega) (by omega)
    have h2 : (nI k).toNatClampNeg = k := zb_cl (by omega)
    have h3 : (nI k < nI W) = True := eq_true ((nI_ltI (by omega) (by omega)).mpr hk)
    rw [zr45_5]
    simp only [zr45_0, zr45_1, zr45_2, zr45_3, zr45_7, zr45_8, zr45_11, zr45_14, zr45_15, zr45_18, zr45_20, zr45_21, zr45_22, zr45_23, zr45_26, zr45_27, zr45_28, zr45_30, zr45_33, zr45_36, zr45_37, zr45_38, zr45_40, zr45_41, zr45_42, zr45_43, zr45_46, zr45_49, zr45_50, hc, ho, hp, h1, h2, h3, k_Course_isRipe hc0 ho0 hp hW (show k < 7 by omega), zq_kill_int, zq_kill_ref, zq_rf_some, true_and, and_true, true_implies, not_true_eq_false, false_implies, nI_1, zb_set_s, zb_i0, Option.toList_some, List.cons_append, List.nil_append, zc_open]
    by_cases h4 : hi (c + 7) k &&& gone = 0 <;> by_cases h5 : zc_ripe hi c o k = true <;> simp [h4, h5]
  have h3 : (nI W < nI W) = False := eq_false (nI_nlt (Nat.le_refl _) (by omega))
  simp only [zr45_0, zr45_1, zr45_2, zr45_3, zr45_7, zr45_8, zr45_11, zr45_14, zr45_15, zr45_18, zr45_20, zr45_21, zr45_22, zr45_23, zr45_26, zr45_27, zr45_28, zr45_30, zr45_33, zr45_36, zr45_37, zr45_38, zr45_40, zr45_41, zr45_42, zr45_43, zr45_46, zr45_49, zr45_50, zq_kill_int, zq_kill_ref, zq_kill_ret]
  refine Eq.trans loop ?_
  rw [zr45_5]
  simp only [zr45_0, zr45_1, zr45_2, zr45_3, zr45_7, zr45_8, zr45_11, zr45_14, zr45_15, zr45_18, zr45_20, zr45_21, zr45_22, zr45_23, zr45_26, zr45_27, zr45_28, zr45_30, zr45_33, zr45_36, zr45_37, zr45_38, zr45_40, zr45_41, zr45_42, zr45_43, zr45_46, zr45_49, zr45_50, hc, hp, h3, true_and, and_true, false_implies, not_false_eq_true, true_implies, zq_kill_int]
/-- a way is done; he reigns; a way is taken back: the course's cells -/
def zc_go (hi : zq_I) (c o w : Nat) : zq_I := zq_u (zq_u (zq_u (zq_u (zq_u hi (o + 1) w (hi o 2)) (o + 2) w (hi (o + 2) w + 1)) o 4 (hi o 4 + hi (c + 6) w)) o 3 (nI w)) o 2 (hi o 2 + 1)
def zc_re (hi : zq_I) (o : Nat) : zq_I := zq_u (zq_u (zq_u (zq_u hi o 5 (hi o 5 + 1)) o 4 (hi o 4 + 20)) o 3 (-1)) o 2 (hi o 2 + 1)
def zc_bk (hi : zq_I) (c o w : Nat) (l a : Int32) : zq_I := zq_u (zq_u (zq_u (zq_u (zq_u hi o 2 (hi o 2 - 1)) o 3 a) (o + 1) w l) (o + 2) w (hi (o + 2) w - 1)) o 4 (hi o 4 - hi (c + 6) w)
def zc_rb (hi : zq_I) (o : Nat) (a : Int32) : zq_I := zq_u (zq_u (zq_u (zq_u hi o 2 (hi o 2 - 1)) o 3 a) o 5 (hi o 5 - 1)) o 4 (hi o 4 - 20)
theorem zc_has_nI {w W : Nat} (hp : hi c 10 = nI W) (hW : W ≤ 7) (hw : w < W) : zc_has hi c (nI w) = true := by
  unfold zc_has
  rw [hp, decide_eq_true_eq]
  exact ⟨nI_pos (by omega), (nI_ltI (by omega) (by omega)).mpr hw⟩
theorem zc_has_re : zc_has hi c (-1) = false := by
  unfold zc_has
  rw [decide_eq_false_iff_not]
  exact fun h => h.1 (by decide)
theorem k_Course_goOn {w W : Nat} (hc : zq_Ct S hr c) (ho : zq_Co S hr o) (hd : o + 2 < c ∨ c + 8 < o) (hp : hi c 10 = nI W) (hW : W ≤ 7) (hw : w < W) : zq_P (d + 1) 55 0 [.ref o, .ref c, .int (nI w)] [] (S, hi, hl, hr) Q = Q none (S, zc_go hi c o w, hl, hr) := by
  have hc0 := hc
  unfold zq_Ct at hc
  unfold zq_Co at ho
  have h1 : zq_xS (nI w) 7 := zb_x (by omega) (by omega)
  have h2 : (nI w).toNatClampNeg = w := zb_cl (by omega)
  have e1 : ¬ (c + 6 = o) := by omega
  have e2 : ¬ (c + 6 = o + 1) := by omega
  have e3 : ¬ (c + 6 = o + 2) := by omega
  simp only [zr55_0, zr55_1, zr55_2, zr55_5, zr55_8, zr55_9, zr55_12, zr55_13, zr55_14, zr55_17, zr55_18, zr55_19, zr55_22, zr55_23, zr55_24, zr55_25, zr55_26, zr55_27, zr55_28, zr55_29, zr55_30, zr55_33, zr55_34, zr55_37, zr55_38, zr55_39, zr55_40, zr55_43, zr55_44, zr55_45, zr55_48, zr55_51, zr55_52, zr55_53, zr55_56, zr55_57, zr55_58, zr55_61, zr55_62, zr55_63, zr55_66, zr55_68, zr55_69, zr55_72, zr55_73, zr55_74, zr55_77, zr55_78, zr55_79, zr55_82, zr55_83, zr55_84, zr55_87, hc, ho, h1, h2, k_Court_hasWay hc0, zc_has_nI hp hW hw, zq_rf_some, true_and, zb_i0, Option.toList_some, List.cons_append, List.nil_append, Bool.true_eq_false, false_implies, not_false_eq_true, true_implies]
  simp [zc_go, zq_u, e1, e2, e3]
theorem k_Course_goOnR (hc : zq_Ct S hr c) (ho : zq_Co S hr o) : zq_P (d + 1) 55 0 [.ref o, .ref c, .int (-1)] [] (S, hi, hl, hr) Q = Q none (S, zc_re hi o, hl, hr) := by
  have hc0 := hc
  unfold zq_Ct at hc
  unfold zq_Co at ho
  simp only [zr55_0, zr55_1, zr55_2, zr55_5, zr55_8, zr55_9, zr55_12, zr55_13, zr55_14, zr55_17, zr55_18, zr55_19, zr55_22, zr55_23, zr55_24, zr55_25, zr55_26, zr55_27, zr55_28, zr55_29, zr55_30, zr55_33, zr55_34, zr55_37, zr55_38, zr55_39, zr55_40, zr55_43, zr55_44, zr55_45, zr55_48, zr55_51, zr55_52, zr55_53, zr55_56, zr55_57, zr55_58, zr55_61, zr55_62, zr55_63, zr55_66, zr55_68, zr55_69, zr55_72, zr55_73, zr55_74, zr55_77, zr55_78, zr55_79, zr55_82, zr55_83, zr55_84, zr55_87, hc, ho, k_Court_hasWay hc0, zc_has_re, zq_rf_some, true_and, and_true, zb_i0, Option.toList_some, List.cons_append, List.nil_append, not_true_eq_false, false_implies, true_implies]
  simp [zc_re, zq_u]
theorem k_Course_goBack {w W : Nat} {l a : Int32} (hc : zq_Ct S hr c) (ho : zq_Co S hr o) (hd : o + 2 < c ∨ c + 8 < o) (hp : hi c 10 = nI W) (hW : W ≤ 7) (hw : w < W) : zq_P (d + 1) 68 0 [.ref o, .ref c, .int (nI w), .int l, .int a] [] (S, hi, hl, hr) Q = Q none (S, zc_bk hi c o w l a, hl, hr) := by
  have hc0 := hc
  unfold zq_Ct at hc
  unfold zq_Co at ho
  have h1 : zq_xS (nI w) 7 := zb_x (by omega) (by omega)
  have h2 : (nI w).toNatClampNeg = w := zb_cl (by omega)
  have e1 : ¬ (c + 6 = o) := by omega
  have e2 : ¬ (c + 6 = o + 1) := by omega
  have e3 : ¬ (c + 6 = o + 2) := by omega
  have e4 : ¬ (c = o) := by omega
  have hh : ∀ v a, zc_has (zq_u (zq_u hi o 2 v) o 3 a) c (nI w) = true := by
    intro v a
    refine zc_has_nI (W := W) ?_ hW hw
    simp [zq_u, e4, hp]
  simp only [zr68_0, zr68_1, zr68_2, zr68_5, zr68_6, zr68_7, zr68_10, zr68_11, zr68_13, zr68_16, zr68_17, zr68_18, zr68_21, zr68_24, zr68_25, zr68_28, zr68_29, zr68_30, zr68_31, zr68_32, zr68_35, zr68_36, zr68_37, zr68_38, zr68_39, zr68_40, zr68_41, zr68_42, zr68_43, zr68_46, zr68_47, zr68_50, zr68_51, zr68_52, zr68_53, zr68_56, zr68_59, zr68_60, zr68_61, zr68_64, zr68_65, zr68_66, zr68_69, zr68_70, zr68_71, zr68_74, zr68_76, zr68_77, zr68_80, hc, ho, h1, h2, k_Court_hasWay hc0, hh, zq_rf_some, true_and, zb_i0, Option.toList_some, List.cons_append, List.nil_append, Bool.true_eq_false, false_implies, not_false_eq_true, true_implies]
  simp [zc_bk, zq_u, e1, e2, e3]
theorem k_Course_goBackR {l a : Int32} (hc : zq_Ct S hr c) (ho : zq_Co S hr o) : zq_P (d + 1) 68 0 [.ref o, .ref c, .int (-1), .int l, .int a] [] (S, hi, hl, hr) Q = Q none (S, zc_rb hi o a, hl, hr) := by
  have hc0 := hc
  unfold zq_Ct at hc
  unfold zq_Co at ho
  simp only [zr68_0, zr68_1, zr68_2, zr68_5, zr68_6, zr68_7, zr68_10, zr68_11, zr68_13, zr68_16, zr68_17, zr68_18, zr68_21, zr68_24, zr68_25, zr68_28, zr68_29, zr68_30, zr68_31, zr68_32, zr68_35, zr68_36, zr68_37, zr68_38, zr68_39, zr68_40, zr68_41, zr68_42, zr68_43, zr68_46, zr68_47, zr68_50, zr68_51, zr68_52, zr68_53, zr68_56, zr68_59, zr68_60, zr68_61, zr68_64, zr68_65, zr68_66, zr68_69, zr68_70, zr68_71, zr68_74, zr68_76, zr68_77, zr68_80, hc, ho, k_Court_hasWay hc0, zc_has_re, zq_rf_some, true_and, and_true, zb_i0, Option.toList_some, List.cons_append, List.nil_append, not_true_eq_false, false_implies, true_implies]
  simp [zc_rb, zq_u]
end Z20
