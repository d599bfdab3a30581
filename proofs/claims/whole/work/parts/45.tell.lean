/-! What is told as a part: both by the greatest shared -/
theorem zl_cmp0 {b : Nat} (hb : b < 2 ^ 63) : (lg_cmp (lN b) 0 = 0) = (b = 0) := by
  apply propext
  rw [lg_cmp_eq, show (0 : Int64) = lN 0 from rfl, pk_lEQ hb (by omega)]
theorem zl_n0 {b : Nat} (hb : b < 2 ^ 63) : (lN b = 0) = (b = 0) := by
  apply propext
  rw [show (0 : Int64) = lN 0 from rfl, pk_lEQ hb (by omega)]
theorem zl_half {a b : Nat} (hb : 0 < b) : b % (a % b) < (b + 1) / 2 ∨ a % b = 0 := by
  by_cases r0 : a % b = 0
  · exact Or.inr r0
  · refine Or.inl ?_
    have h1 : a % b < b := Nat.mod_lt _ hb
    have h2 : b % (a % b) < a % b := Nat.mod_lt _ (by omega)
    have h3 : a % b + b % (a % b) ≤ b := by
      have := Nat.div_add_mod b (a % b)
      have h4 : 1 ≤ b / (a % b) := (Nat.le_div_iff_mul_le (by omega)).mpr (by omega)
      have h5 : a % b * 1 ≤ a % b * (b / (a % b)) := Nat.mul_le_mul_left _ h4
      omega
    omega
section Z45
variable {N ca cb cs d W P D u l : Nat} {hi : zq_I} {hl : zq_J} {Q : Option Value → zq_G → Prop}
theorem k_EF_shared_loop : ∀ k a b i (v9 v10 : Value), a < 2 ^ 63 → b < 2 ^ 63 → b < 2 ^ k → i + 2 * k ≤ 200 → zq_P d 70 9 [.long (lN u), .retAddr 0, .long (lN l), .retAddr 0, .long (lN a), .retAddr 0, .long (lN b), .retAddr 0, .int (nI i), v9, v10] [] (zq_SG N, hi, hl, zq_HR ca cb cs) Q = Q (some (.long (lN (Nat.gcd b a)))) (zq_SG N, hi, hl, zq_HR ca cb cs) := by
  have i200 : ∀ i, i ≤ 200 → (nI i < 200) = (i < 200) := fun i hi' => zb_lt (b := 200) (by omega) (by omega)
  have fin : ∀ a i (v9 v10 : Value), a < 2 ^ 63 → i ≤ 200 → zq_P d 70 9 [.long (lN u), .retAddr 0, .long (lN l), .retAddr 0, .long (lN a), .retAddr 0, .long (lN 0), .retAddr 0, .int (nI i), v9, v10] [] (zq_SG N, hi, hl, zq_HR ca cb cs) Q = Q (some (.long (lN a))) (zq_SG N, hi, hl, zq_HR ca cb cs) := by
    intro a i v9 v10 ha hi'
    have e0 : (lg_cmp (lN 0) 0 = 0) = True := by rw [zl_cmp0 (by omega)]; exact eq_true rfl
    rw [zr70_9]
    simp only [zr70_0, zr70_1, zr70_3, zr70_4, zr70_6, zr70_7, zr70_11, zr70_14, zr70_17, zr70_19, zr70_20, zr70_21, zr70_24, zr70_26, zr70_28, zr70_29, zr70_31, zr70_33, zr70_35, zr70_37, zr70_39, zr70_42, zr70_45, zr70_47, zq_kill_int, zq_kill_ref, zq_kill_ret, zq_kill_null, zq_kill_long, zq_rf_some, zq_rf_none, true_and, and_true, true_implies, not_true_eq_false, not_false_eq_true, false_implies, Bool.true_eq_false, Bool.false_eq_true, nI_1, zb_i0, zb_i1, zb_i2, Option.toList_some, Option.toList_none, List.cons_append, List.nil_append, true_or, or_true, implies_true, zb_it, zb_if, zb_10, zb_00, zb_n5, zb_n2, zb_m1, zb_m3, zb_m9, or_true, true_or, or_false, false_or, e0]
    by_cases q : nI i < 200 <;> simp [q]
  have one : ∀ a b i (v9 v10 : Value), a < 2 ^ 63 → b < 2 ^ 63 → 0 < b → i < 200 → zq_P d 70 9 [.long (lN u), .retAddr 0, .long (lN l), .retAddr 0, .long (lN a), .retAddr 0, .long (lN b), .retAddr 0, .int (nI i), v9, v10] [] (zq_SG N, hi, hl, zq_HR ca cb cs) Q = zq_P d 70 9 [.long (lN u), .retAddr 0, .long (lN l), .retAddr 0, .long (lN b), .retAddr 0, .long (lN (a % b)), .retAddr 0, .int (nI (i + 1)), .long (lN (a % b)), .retAddr 0] [] (zq_SG N, hi, hl, zq_HR ca cb cs) Q := by
    intro a b i v9 v10 ha hb hb0 hi'
    have e0 : (lg_cmp (lN b) 0 = 0) = False := by rw [zl_cmp0 hb]; exact eq_false (by omega)
    have e1 : (lN b = 0) = False := by rw [zl_n0 hb]; exact eq_false (by omega)
    have e2 : (nI i < 200) = True := by rw [i200 i (by omega)]; exact eq_true hi'
    have e3 : (0 < nI i ∨ True) = True := by simp
    rw [zr70_9]
    simp only [zr70_0, zr70_1, zr70_3, zr70_4, zr70_6, zr70_7, zr70_11, zr70_14, zr70_17, zr70_19, zr70_20, zr70_21, zr70_24, zr70_26, zr70_28, zr70_29, zr70_31, zr70_33, zr70_35, zr70_37, zr70_39, zr70_42, zr70_45, zr70_47, zq_kill_int, zq_kill_ref, zq_kill_ret, zq_kill_null, zq_kill_long, zq_rf_some, zq_rf_none, true_and, and_true, true_implies, not_true_eq_false, not_false_eq_true, false_implies, Bool.true_eq_false, Bool.false_eq_true, nI_1, zb_i0, zb_i1, zb_i2, Option.toList_some, Option.toList_none, List.cons_append, List.nil_append, true_or, or_true, implies_true, zb_it, zb_if, zb_10, zb_00, zb_n5, zb_n2, zb_m1, zb_m3, zb_m9, or_true, true_or, or_false, false_or, e0, e1, e2, pk_lRem ha hb0 hb]
  intro k
  induction k with
  | zero =>
    intro a b i v9 v10 ha hb hk hi'
    have : b = 0 := by simpa using hk
    subst this
    rw [fin a i v9 v10 ha (by omega), Nat.gcd_zero_left]
  | succ k ih =>
    intro a b i v9 v10 ha hb hk hi'
    by_cases hb0 : b = 0
    · subst hb0
      rw [fin a i v9 v10 ha (by omega), Nat.gcd_zero_left]
    · have hlt : a % b < b := Nat.mod_lt _ (by omega)
      rw [one a b i v9 v10 ha hb (by omega) (by omega)]
      by_cases r0 : a % b = 0
      · rw [r0, fin b (i + 1) _ _ hb (by omega)]
        have : Nat.gcd b a = b := by rw [Nat.gcd_rec, r0, Nat.gcd_zero_left]
        rw [this]
      · rw [one b (a % b) (i + 1) _ _ hb (by omega) (by omega) (by omega)]
        have hh := (zl_half (a := a) (show 0 < b by omega)).resolve_right r0
        have hp : 2 ^ (k + 1) = 2 * 2 ^ k := by rw [Nat.pow_succ]; omega
        rw [ih (a % b) (b % (a % b)) (i + 1 + 1) _ _ (by omega) (by omega) (by omega) (by omega), ← Nat.gcd_rec, ← Nat.gcd_rec]
/-- the class tells -/
def tlc (hl : zq_J) (u l : Nat) : zq_J := zq_u (zq_u hl 0 10 (lN (u / Nat.gcd l u))) 0 11 (lN (l / Nat.gcd l u))
def tlm (hl : zq_J) (u l : Nat) : zq_J := zq_u (zq_u hl 60 3 (lN (u / Nat.gcd l u))) 60 4 (lN (l / Nat.gcd l u))
theorem k_EF_tell (hu : u < 2 ^ 62) (hl0 : 0 < l) (hl1 : l < 2 ^ 62) : zq_P (d + 1) 69 0 [.ref 0, .long (lN u), .retAddr 0, .long (lN l), .retAddr 0, .retAddr 0, .retAddr 0] [] (zq_SG N, hi, hl, zq_HR ca cb cs) Q = Q none (zq_SG N, hi, tlc hl u l, zq_HR ca cb cs) := by
  have g0 : 0 < Nat.gcd l u := Nat.gcd_pos_of_pos_left _ hl0
  have g1 : Nat.gcd l u ≤ l := Nat.gcd_le_left _ hl0
  have e1 : (lN (Nat.gcd l u) = 0) = False := by rw [zl_n0 (by omega)]; exact eq_false (by omega)
  have e2 : (0 < lg_cmp (lN (Nat.gcd l u)) 0) = True := by
    refine eq_true ?_
    rw [lg_cmp_gt, show (0 : Int64) = lN 0 from rfl, pk_lLT (by omega) (by omega)]
    exact g0
  have sh := fun Q => k_EF_shared_loop (N := N) (ca := ca) (cb := cb) (cs := cs) (d := d) (hi := hi) (hl := hl) (Q := Q) (u := u) (l := l) 62 u l 0 (.retAddr 0) (.retAddr 0) (by omega) (by omega) hl1 (by omega)
  rw [show nI 0 = 0 from rfl] at sh
  simp only [zr69_0, zr69_1, zr69_2, zr69_5, zr69_7, zr69_9, zr69_10, zr69_11, zr69_14, zr69_15, zr69_16, zr69_17, zr69_19, zr69_20, zr69_23, zr69_24, zr69_25, zr69_27, zr69_28, zr69_31, zr70_0, zr70_1, zr70_3, zr70_4, zr70_6, zr70_7, zr70_11, zr70_14, zr70_17, zr70_19, zr70_20, zr70_21, zr70_24, zr70_26, zr70_28, zr70_29, zr70_31, zr70_33, zr70_35, zr70_37, zr70_39, zr70_42, zr70_45, zr70_47, zs_x0 N, zh_x0 ca cb cs, zq_kill_int, zq_kill_ref, zq_kill_ret, zq_kill_null, zq_kill_long, zq_rf_some, zq_rf_none, true_and, and_true, true_implies, not_true_eq_false, not_false_eq_true, false_implies, Bool.true_eq_false, Bool.false_eq_true, nI_1, zb_i0, zb_i1, zb_i2, Option.toList_some, Option.toList_none, List.cons_append, List.nil_append, true_or, or_true, implies_true, zb_it, zb_if, zb_10, zb_00, zb_n5, zb_n2, zb_m1, zb_m3, zb_m9, or_true, true_or, or_false, false_or, sh, e1, e2, pk_lDiv (show u < 2 ^ 63 by omega) g0 (show Nat.gcd l u < 2 ^ 63 by omega), pk_lDiv (show l < 2 ^ 63 by omega) g0 (show Nat.gcd l u < 2 ^ 63 by omega), tlc]
theorem k_M_part_loop : ∀ n a b (v9 v10 : Value), b ≤ n → a < 2 ^ 63 → b < 2 ^ 63 → ∃ v9' v10', zq_P d 175 6 [.ref 60, .long (lN u), .retAddr 0, .long (lN l), .retAddr 0, .long (lN a), .retAddr 0, .long (lN b), .retAddr 0, v9, v10] [] (zq_SG N, hi, hl, zq_HR ca cb cs) Q = zq_P d 175 31 [.ref 60, .long (lN u), .retAddr 0, .long (lN l), .retAddr 0, .long (lN (Nat.gcd b a)), .retAddr 0, .long (lN 0), .retAddr 0, v9', v10'] [] (zq_SG N, hi, hl, zq_HR ca cb cs) Q := by
  intro n
  induction n with
  | zero =>
    intro a b v9 v10 hb0 ha hb
    have : b = 0 := by omega
    subst this
    have e0 : (lg_cmp (lN 0) 0 = 0) = True := by rw [zl_cmp0 (by omega)]; exact eq_true rfl
    refine ⟨v9, v10, ?_⟩
    rw [zr175_6]
    simp only [zr175_0, zr175_1, zr175_3, zr175_4, zr175_8, zr175_9, zr175_10, zr175_13, zr175_15, zr175_17, zr175_18, zr175_20, zr175_22, zr175_24, zr175_26, zr175_28, zr175_32, zr175_33, zr175_35, zr175_36, zr175_39, zr175_40, zr175_41, zr175_43, zr175_44, zr175_47, zr175_48, zq_kill_int, zq_kill_ref, zq_kill_ret, zq_kill_null, zq_kill_long, zq_rf_some, zq_rf_none, true_and, and_true, true_implies, not_true_eq_false, not_false_eq_true, false_implies, Bool.true_eq_false, Bool.false_eq_true, nI_1, zb_i0, zb_i1, zb_i2, Option.toList_some, Option.toList_none, List.cons_append, List.nil_append, true_or, or_true, implies_true, zb_it, zb_if, zb_10, zb_00, zb_n5, zb_n2, zb_m1, zb_m3, zb_m9, or_true, true_or, or_false, false_or, e0, Nat.gcd_zero_left]
  | succ n ih =>
    intro a b v9 v10 hb0 ha hb
    by_cases hb1 : b = 0
    · subst hb1
      have e0 : (lg_cmp (lN 0) 0 = 0) = True := by rw [zl_cmp0 (by omega)]; exact eq_true rfl
      refine ⟨v9, v10, ?_⟩
      rw [zr175_6]
      simp only [zr175_0, zr175_1, zr175_3, zr175_4, zr175_8, zr175_9, zr175_10, zr175_13, zr175_15, zr175_17, zr175_18, zr175_20, zr175_22, zr175_24, zr175_26, zr175_28, zr175_32, zr175_33, zr175_35, zr175_36, zr175_39, zr175_40, zr175_41, zr175_43, zr175_44, zr175_47, zr175_48, zq_kill_int, zq_kill_ref, zq_kill_ret, zq_kill_null, zq_kill_long, zq_rf_some, zq_rf_none, true_and, and_true, true_implies, not_true_eq_false, not_false_eq_true, false_implies, Bool.true_eq_false, Bool.false_eq_true, nI_1, zb_i0, zb_i1, zb_i2, Option.toList_some, Option.toList_none, List.cons_append, List.nil_append, true_or, or_true, implies_true, zb_it, zb_if, zb_10, zb_00, zb_n5, zb_n2, zb_m1, zb_m3, zb_m9, or_true, true_or, or_false, false_or, e0, Nat.gcd_zero_left]
    · have hlt : a % b < b := Nat.mod_lt _ (by omega)
      have e0 : (lg_cmp (lN b) 0 = 0) = False := by rw [zl_cmp0 hb]; exact eq_false (by omega)
      have e1 : (lN b = 0) = False := by rw [zl_n0 hb]; exact eq_false (by omega)
      obtain ⟨v, v', q⟩ := ih b (a % b) (.long (lN (a % b))) (.retAddr 0) (by omega) hb (by omega)
      refine ⟨v, v', ?_⟩
      rw [zr175_6]
      simp only [zr175_0, zr175_1, zr175_3, zr175_4, zr175_8, zr175_9, zr175_10, zr175_13, zr175_15, zr175_17, zr175_18, zr175_20, zr175_22, zr175_24, zr175_26, zr175_28, zr175_32, zr175_33, zr175_35, zr175_36, zr175_39, zr175_40, zr175_41, zr175_43, zr175_44, zr175_47, zr175_48, zq_kill_int, zq_kill_ref, zq_kill_ret, zq_kill_null, zq_kill_long, zq_rf_some, zq_rf_none, true_and, and_true, true_implies, not_true_eq_false, not_false_eq_true, false_implies, Bool.true_eq_false, Bool.false_eq_true, nI_1, zb_i0, zb_i1, zb_i2, Option.toList_some, Option.toList_none, List.cons_append, List.nil_append, true_or, or_true, implies_true, zb_it, zb_if, zb_10, zb_00, zb_n5, zb_n2, zb_m1, zb_m3, zb_m9, or_true, true_or, or_false, false_or, e0, e1, pk_lRem ha (show 0 < b by omega) hb, q]
      rw [← Nat.gcd_rec]
theorem k_M_part (hu : u < 2 ^ 62) (hl0 : 0 < l) (hl1 : l < 2 ^ 62) : zq_P d 175 0 [.ref 60, .long (lN u), .retAddr 0, .long (lN l), .retAddr 0, .retAddr 0, .retAddr 0, .retAddr 0, .retAddr 0, .retAddr 0, .retAddr 0] [] (zq_SG N, hi, hl, zq_HR ca cb cs) Q = Q (some (.int 1)) (zq_SG N, hi, tlm hl u l, zq_HR ca cb cs) := by
  have g0 : 0 < Nat.gcd l u := Nat.gcd_pos_of_pos_left _ hl0
  have g1 : Nat.gcd l u ≤ l := Nat.gcd_le_left _ hl0
  have e1 : (lN (Nat.gcd l u) = 0) = False := by rw [zl_n0 (by omega)]; exact eq_false (by omega)
  obtain ⟨v, v', q⟩ := k_M_part_loop (N := N) (ca := ca) (cb := cb) (cs := cs) (d := d) (hi := hi) (hl := hl) (Q := Q) (u := u) (l := l) l u l (.retAddr 0) (.retAddr 0) (Nat.le_refl _) (by omega) (by omega)
  simp only [zr175_0, zr175_1, zr175_3, zr175_4, zr175_8, zr175_9, zr175_10, zr175_13, zr175_15, zr175_17, zr175_18, zr175_20, zr175_22, zr175_24, zr175_26, zr175_28, zr175_32, zr175_33, zr175_35, zr175_36, zr175_39, zr175_40, zr175_41, zr175_43, zr175_44, zr175_47, zr175_48, zs_m0 N, zs_m1 N, zs_m2 N, zh_m0 ca cb cs, zq_kill_int, zq_kill_ref, zq_kill_ret, zq_kill_null, zq_kill_long, zq_rf_some, zq_rf_none, true_and, and_true, true_implies, not_true_eq_false, not_false_eq_true, false_implies, Bool.true_eq_false, Bool.false_eq_true, nI_1, zb_i0, zb_i1, zb_i2, Option.toList_some, Option.toList_none, List.cons_append, List.nil_append, true_or, or_true, implies_true, zb_it, zb_if, zb_10, zb_00, zb_n5, zb_n2, zb_m1, zb_m3, zb_m9, or_true, true_or, or_false, false_or, q]
  simp only [zr175_0, zr175_1, zr175_3, zr175_4, zr175_8, zr175_9, zr175_10, zr175_13, zr175_15, zr175_17, zr175_18, zr175_20, zr175_22, zr175_24, zr175_26, zr175_28, zr175_31, zr175_32, zr175_33, zr175_35, zr175_36, zr175_39, zr175_40, zr175_41, zr175_43, zr175_44, zr175_47, zr175_48, zs_m0 N, zs_m1 N, zs_m2 N, zh_m0 ca cb cs, zq_kill_int, zq_kill_ref, zq_kill_ret, zq_kill_null, zq_kill_long, zq_rf_some, zq_rf_none, true_and, and_true, true_implies, not_true_eq_false, not_false_eq_true, false_implies, Bool.true_eq_false, Bool.false_eq_true, nI_1, zb_i0, zb_i1, zb_i2, Option.toList_some, Option.toList_none, List.cons_append, List.nil_append, true_or, or_true, implies_true, zb_it, zb_if, zb_10, zb_00, zb_n5, zb_n2, zb_m1, zb_m3, zb_m9, or_true, true_or, or_false, false_or, e1, pk_lDiv (show u < 2 ^ 63 by omega) g0 (show Nat.gcd l u < 2 ^ 63 by omega), pk_lDiv (show l < 2 ^ 63 by omega) g0 (show Nat.gcd l u < 2 ^ 63 by omega), tlm]
theorem tl_both {u l : Nat} : tlm (tlc hl u l) u l 0 10 = tlm (tlc hl u l) u l 60 3 ∧ tlm (tlc hl u l) u l 0 11 = tlm (tlc hl u l) u l 60 4 := by
  unfold tlm tlc
  refine ⟨?_, ?_⟩
  · rw [zq_u_ne (by omega), zq_u_ne (by omega), zq_u_kn (by omega), zq_u_eq, zq_u_kn (by omega), zq_u_eq]
  · rw [zq_u_ne (by omega), zq_u_ne (by omega), zq_u_eq, zq_u_eq]
end Z45
