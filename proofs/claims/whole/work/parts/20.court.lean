/-! The court's own methods -/
section Z20
variable {N ca cb cs d n : Nat} {hi : zq_I} {hl : zq_J} {Q : Option Value → zq_G → Prop} {day x b : Int32}
/-- a truth as the machine has it -/
def zb_i (p : Bool) : Int32 := if p = true then 1 else 0
theorem zb_i0 (p : Bool) : (zb_i p = 0) = (p = false) := by cases p <;> decide
theorem zb_i1 (p : Bool) : (zb_i p = 0 ∨ zb_i p = 1) = True := by cases p <;> decide
theorem zb_ne {x : Int32} (h : 0 < x) : ¬ x = 0 := by rintro rfl; exact absurd h (by decide)
def zc_away (hi : zq_I) (c : Nat) (day : Int32) (k : Nat) : Bool := decide (0 < hi (c + 1) k ∧ day - day / hi (c + 1) k * hi (c + 1) k = hi (c + 2) k)
theorem k_Court_awayOn {c : Nat} (hc : c = 36 ∨ c = 45) (hp : hi c 9 = nI n) (hn : n ≤ 3) : zq_P d 44 0 [.ref c, .int day, .retAddr 0, .retAddr 0] [] (zq_SG N, hi, hl, zq_HR ca cb cs) Q = Q (some (.int (zb_set (zc_away hi c day) n))) (zq_SG N, hi, hl, zq_HR ca cb cs) := by
  have loop : zq_P d 44 4 [.ref c, .int day, .int (zb_set (zc_away hi c day) 0), .int (nI 0)] [] (zq_SG N, hi, hl, zq_HR ca cb cs) Q = zq_P d 44 4 [.ref c, .int day, .int (zb_set (zc_away hi c day) n), .int (nI n)] [] (zq_SG N, hi, hl, zq_HR ca cb cs) Q := by
    refine zq_loop (f := fun k => zq_P d 44 4 [.ref c, .int day, .int (zb_set (zc_away hi c day) k), .int (nI k)] [] (zq_SG N, hi, hl, zq_HR ca cb cs) Q) fun k hk => ?_
    have h1 : zq_xS (nI k) 3 := zb_x (by omega) (by omega)
    have h2 : (nI k).toNatClampNeg = k := zb_cl (by omega)
    have h3 : (nI k < nI n) = True := eq_true ((nI_ltI (by omega) (by omega)).mpr hk)
    rcases hc with rfl | rfl
    all_goals
      rw [zr44_4]
      simp only [zr44_0, zr44_1, zr44_2, zr44_3, zr44_5, zr44_6, zr44_9, zr44_12, zr44_13, zr44_16, zr44_17, zr44_18, zr44_21, zr44_22, zr44_23, zr44_26, zr44_27, zr44_28, zr44_29, zr44_30, zr44_33, zr44_34, zr44_35, zr44_38, zr44_39, zr44_40, zr44_41, zr44_42, zr44_43, zr44_44, zr44_47, zr44_50, zr44_51, zs_c10 N, zh_c10 ca cb cs, zs_c20 N, zh_c20 ca cb cs, hp, h1, h2, h3, zq_kill_int, zq_kill_ref, zq_rf_some, true_and, and_true, true_implies, not_true_eq_false, false_implies, nI_1, zb_set_s, zc_away, decide_eq_true_eq]
    · by_cases h4 : 0 < hi 37 k
      · by_cases h5 : day - day / hi 37 k * hi 37 k = hi 38 k <;> simp [h4, h5, zb_ne h4]
      · simp [h4]
    · by_cases h4 : 0 < hi 46 k
      · by_cases h5 : day - day / hi 46 k * hi 46 k = hi 47 k <;> simp [h4, h5, zb_ne h4]
      · simp [h4]
  have h3 : (nI n < nI n) = False := eq_false (nI_nlt (Nat.le_refl _) (by omega))
  rcases hc with rfl | rfl
  all_goals
    simp only [zr44_0, zr44_1, zr44_2, zr44_3, zr44_5, zr44_6, zr44_9, zr44_12, zr44_13, zr44_16, zr44_17, zr44_18, zr44_21, zr44_22, zr44_23, zr44_26, zr44_27, zr44_28, zr44_29, zr44_30, zr44_33, zr44_34, zr44_35, zr44_38, zr44_39, zr44_40, zr44_41, zr44_42, zr44_43, zr44_44, zr44_47, zr44_50, zr44_51, zq_kill_int, zq_kill_ref, zq_kill_ret]
    refine Eq.trans loop ?_
    rw [zr44_4]
    simp only [zr44_0, zr44_1, zr44_2, zr44_3, zr44_5, zr44_6, zr44_9, zr44_12, zr44_13, zr44_16, zr44_17, zr44_18, zr44_21, zr44_22, zr44_23, zr44_26, zr44_27, zr44_28, zr44_29, zr44_30, zr44_33, zr44_34, zr44_35, zr44_38, zr44_39, zr44_40, zr44_41, zr44_42, zr44_43, zr44_44, zr44_47, zr44_50, zr44_51, zs_c10 N, zs_c20 N, hp, h3, true_and, and_true, false_implies, not_false_eq_true, true_implies, zq_kill_int]
def zc_kindIs (k b : Int32) : Bool := decide (b = 0 ∨ k = b ∨ (b = 1 ∧ k = 4) ∨ (b = 2 ∧ k = 5))
theorem k_Court_kindIs {g : zq_G} : zq_P d 37 0 [.int x, .int b] [] g Q = Q (some (.int (zb_i (zc_kindIs x b)))) g := by
  obtain ⟨S, hi, hl, hr⟩ := g
  simp only [zr37_0, zr37_1, zr37_4, zr37_5, zr37_6, zr37_9, zr37_10, zr37_11, zr37_12, zr37_13, zr37_16, zr37_17, zr37_18, zr37_21, zr37_22, zr37_25, zr37_26, zr37_29, zr37_30, zr37_31, zr37_34, zr37_35, zr37_36, zr37_39, zr37_40, zr37_43, zr37_44, zc_kindIs, zb_i, decide_eq_true_eq]
  by_cases h0 : b = 0
  · simp [h0]
  · by_cases h1 : x = b
    · simp [h0, h1]
    · by_cases h2 : b = 1
      · subst h2
        by_cases h4 : x = 4 <;> simp [h1, h4]
      · by_cases h3 : b = 2
        · subst h3
          by_cases h5 : x = 5 <;> simp [h1, h5]
        · simp [h0, h1, h2, h3]
end Z20
