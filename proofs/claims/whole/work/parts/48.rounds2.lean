/-! rounds: rows spelled by numbers, counted -/
def pthc (W n code i : Nat) : Nat := code / W ^ (n - 1 - i) % W
def spf (f : Nat → Int32) (W n code m j : Nat) : Int32 := if n - m ≤ j ∧ j < n then nI (pthc W n code j) else f j
theorem spf_s {f : Nat → Int32} {W n code m : Nat} (hm : m < n) : (fun j => if j = n - m - 1 then nI (code / W ^ m % W) else spf f W n code m j) = spf f W n code (m + 1) := by
  funext j
  unfold spf pthc
  by_cases e : j = n - m - 1
  · rw [if_pos e, if_pos (by omega), show n - 1 - j = m by omega]
  · rw [if_neg e]
    by_cases e2 : n - m ≤ j ∧ j < n
    · rw [if_pos e2, if_pos (by omega)]
    · rw [if_neg e2, if_neg (by omega)]
theorem spf_0 {f : Nat → Int32} {W n code : Nat} : spf f W n code 0 = f := by
  funext j
  unfold spf
  rw [if_neg (by omega)]
theorem zb_mm1 (x : Int32) : x + (-1) = x - 1 := (Int32.sub_eq_add_neg x 1).symm
def rcn (g : Nat → Bool) : Nat → Nat
  | 0 => 0
  | k + 1 => if g k = true then rcn g k + 1 else rcn g k
def rfi (g : Nat → Bool) (z : Nat → Nat) : Nat → Int32
  | 0 => -9
  | k + 1 => if g k = true then (if rcn g k = 0 then nI (z k) else rfi g z k) else rfi g z k
theorem rcn_s (g : Nat → Bool) (k : Nat) : rcn g (k + 1) = if g k = true then rcn g k + 1 else rcn g k := rfl
theorem rfi_s (g : Nat → Bool) (z : Nat → Nat) (k : Nat) : rfi g z (k + 1) = if g k = true then (if rcn g k = 0 then nI (z k) else rfi g z k) else rfi g z k := rfl
theorem rcn_le (g : Nat → Bool) : ∀ k, rcn g k ≤ k
  | 0 => Nat.le_refl _
  | k + 1 => by
    have := rcn_le g k
    unfold rcn
    split <;> omega
section Z48
variable {N ca cb cs d W P D n : Nat} {hi C M : zq_I} {hl : zq_J} {Q : Option Value → zq_G → Prop} {code : Nat}
theorem zw_div (W code m : Nat) : code / W ^ m / W = code / W ^ (m + 1) := by rw [Nat.div_div_eq_div_mul, Nat.pow_succ]
theorem k_Search_spell (hca : ca = 36 ∨ ca = 45) (hn : n ≤ 5) (hW0 : 0 < W) (hW : W ≤ 7) (h10 : C ca 10 = nI W) (h54 : C 54 4 = nI n) (hcode : code < 20000) : zq_P d 84 0 [.ref 54, .int (nI code), .retAddr 0, .retAddr 0] [] (zq_SG N, C, hl, zq_HR ca cb ca) Q = Q none (zq_SG N, zq_w C 58 (spf (C 58) W n code n), hl, zq_HR ca cb ca) := by
  have hc := zq_Ct_ok (N := N) (ca := ca) (cb := cb) (cs := ca) hca
  have e0 : (nI W = 0) = False := eq_false (nI_ne0 (by omega) (by omega))
  have loop := zq_loop (n := n) (f := fun m => zq_P d 84 20 [.ref 54, .int (nI code), .int (nI (code / W ^ m)), .int (nI (n - m) - 1)] [] (zq_SG N, zq_w C 58 (spf (C 58) W n code m), hl, zq_HR ca cb ca) Q) fun m hm => by
    have e1 : nI (n - m) - 1 = nI (n - m - 1) := by
      have := nI_pred (n - m - 1)
      rwa [show n - m - 1 + 1 = n - m by omega] at this
    have e2 : (nI (n - m - 1) < 0) = False := eq_false (nI_pos (by omega))
    have x1 : zq_xS (nI (n - m - 1)) 6 := zb_x (by omega) (by omega)
    have x2 : (nI (n - m - 1)).toNatClampNeg = n - m - 1 := zb_cl (by omega)
    have cl : code / W ^ m < 20000 := Nat.lt_of_le_of_lt (Nat.div_le_self _ _) hcode
    have e3 : nI (code / W ^ m) - nI (code / W ^ m) / nI W * nI W = nI (code / W ^ m % W) := pk_rem (by omega) hW0 (by omega)
    have e4 : nI (code / W ^ m) / nI W = nI (code / W ^ (m + 1)) := by rw [pk_div (by omega) hW0 (by omega), zw_div]
    have c10 : ∀ f, zq_w C 58 f ca 10 = nI W := fun f => by rw [zq_w_ne (by omega)]; exact h10
    rw [zr84_20, e1]
    simp only [zr84_0, zr84_1, zr84_2, zr84_3, zr84_6, zr84_9, zr84_12, zr84_13, zr84_14, zr84_17, zr84_18, zr84_19, zr84_21, zr84_24, zr84_25, zr84_28, zr84_29, zr84_30, zr84_31, zr84_34, zr84_37, zr84_38, zr84_39, zr84_40, zr84_41, zr84_44, zr84_47, zr84_48, zr84_49, zr84_52, zr84_55, zs_q0 N, zh_q0 ca cb ca, hc.1, zq_kill_int, zq_kill_ref, zq_kill_ret, zq_kill_null, zq_kill_long, zq_rf_some, zq_rf_none, true_and, and_true, true_implies, not_true_eq_false, not_false_eq_true, false_implies, Bool.true_eq_false, Bool.false_eq_true, nI_1, zb_i0, zb_i1, zb_i2, Option.toList_some, Option.toList_none, List.cons_append, List.nil_append, true_or, or_true, implies_true, zb_it, zb_if, zb_10, zb_00, zb_n5, zb_n2, zb_m1, zb_m3, zb_m9, or_true, true_or, or_false, false_or, e2, x1, x2, zq_w_u, c10, e0]
    rw [e3, e4, spf_s hm, zb_mm1]
    rw [show n - m - 1 = n - (m + 1) by omega]
  have e5 : ((-1 : Int32) < 0) = True := eq_true (by decide)
  rw [spf_0, zq_w_self] at loop
  simp only [Nat.pow_zero, Nat.div_one, Nat.sub_zero] at loop
  simp only [zr84_0, zr84_1, zr84_2, zr84_3, zr84_6, zr84_9, zr84_12, zr84_13, zr84_14, zr84_17, zr84_18, zr84_19, zr84_21, zr84_24, zr84_25, zr84_28, zr84_29, zr84_30, zr84_31, zr84_34, zr84_37, zr84_38, zr84_39, zr84_40, zr84_41, zr84_44, zr84_47, zr84_48, zr84_49, zr84_52, zr84_55, zs_q0 N, zh_q0 ca cb ca, hc.1, zq_kill_int, zq_kill_ref, zq_kill_ret, zq_kill_null, zq_kill_long, zq_rf_some, zq_rf_none, true_and, and_true, true_implies, not_true_eq_false, not_false_eq_true, false_implies, Bool.true_eq_false, Bool.false_eq_true, nI_1, zb_i0, zb_i1, zb_i2, Option.toList_some, Option.toList_none, List.cons_append, List.nil_append, true_or, or_true, implies_true, zb_it, zb_if, zb_10, zb_00, zb_n5, zb_n2, zb_m1, zb_m3, zb_m9, or_true, true_or, or_false, false_or, h10, e0, h54]
  refine Eq.trans loop ?_
  rw [Nat.sub_self, show nI 0 - 1 = -1 from rfl, zr84_20]
  simp only [zr84_0, zr84_1, zr84_2, zr84_3, zr84_6, zr84_9, zr84_12, zr84_13, zr84_14, zr84_17, zr84_18, zr84_19, zr84_21, zr84_24, zr84_25, zr84_28, zr84_29, zr84_30, zr84_31, zr84_34, zr84_37, zr84_38, zr84_39, zr84_40, zr84_41, zr84_44, zr84_47, zr84_48, zr84_49, zr84_52, zr84_55, zq_kill_int, zq_kill_ref, zq_kill_ret, zq_kill_null, zq_kill_long, zq_rf_some, zq_rf_none, true_and, and_true, true_implies, not_true_eq_false, not_false_eq_true, false_implies, Bool.true_eq_false, Bool.false_eq_true, nI_1, zb_i0, zb_i1, zb_i2, Option.toList_some, Option.toList_none, List.cons_append, List.nil_append, true_or, or_true, implies_true, zb_it, zb_if, zb_10, zb_00, zb_n5, zb_n2, zb_m1, zb_m3, zb_m9, or_true, true_or, or_false, false_or]
/-- the reference's rows -/
theorem k_M_rounds_spell {v1 v3 v4 v5 : Value} {y : Int32} (hv1 : v1 = .int (nI n)) (hn : n ≤ 5) (hW0 : 0 < W) (hW : W ≤ 7) (h10 : M 60 10 = nI W) (hcode : code < 20000) : zq_P d 185 67 [.ref 60, .int (nI n), .int y, v3, v4, .int (nI code), .int (nI code), .int (nI n - 1)] [] (zq_SG N, M, hl, zq_HR ca cb cs) Q = zq_P d 185 101 [.ref 60, .int (nI n), .int y, v3, v4, .int (nI code), .int (nI (code / W ^ n)), .int (-1)] [] (zq_SG N, zq_w M 80 (spf (M 80) W n code n), hl, zq_HR ca cb cs) Q := by
  have e0 : (nI W = 0) = False := eq_false (nI_ne0 (by omega) (by omega))
  have loop := zq_loop (n := n) (f := fun m => zq_P d 185 67 [.ref 60, .int (nI n), .int y, v3, v4, .int (nI code), .int (nI (code / W ^ m)), .int (nI (n - m) - 1)] [] (zq_SG N, zq_w M 80 (spf (M 80) W n code m), hl, zq_HR ca cb cs) Q) fun m hm => by
    have e1 : nI (n - m) - 1 = nI (n - m - 1) := by
      have := nI_pred (n - m - 1)
      rwa [show n - m - 1 + 1 = n - m by omega] at this
    have e2 : (nI (n - m - 1) < 0) = False := eq_false (nI_pos (by omega))
    have x1 : zq_xS (nI (n - m - 1)) 7 := zb_x (by omega) (by omega)
    have x2 : (nI (n - m - 1)).toNatClampNeg = n - m - 1 := zb_cl (by omega)
    have cl : code / W ^ m < 20000 := Nat.lt_of_le_of_lt (Nat.div_le_self _ _) hcode
    have e3 : nI (code / W ^ m) - nI (code / W ^ m) / nI W * nI W = nI (code / W ^ m % W) := pk_rem (by omega) hW0 (by omega)
    have e4 : nI (code / W ^ m) / nI W = nI (code / W ^ (m + 1)) := by rw [pk_div (by omega) hW0 (by omega), zw_div]
    have c10 : ∀ f, zq_w M 80 f 60 10 = nI W := fun f => by rw [zq_w_ne (by omega)]; exact h10
    rw [zr185_67, e1]
    simp only [zr185_0, zr185_1, zr185_2, zr185_3, zr185_6, zr185_9, zr185_10, zr185_11, zr185_12, zr185_15, zr185_18, zr185_20, zr185_21, zr185_22, zr185_23, zr185_24, zr185_26, zr185_27, zr185_30, zr185_31, zr185_32, zr185_35, zr185_36, zr185_37, zr185_40, zr185_43, zr185_44, zr185_45, zr185_47, zr185_49, zr185_50, zr185_54, zr185_55, zr185_58, zr185_60, zr185_62, zr185_63, zr185_64, zr185_65, zr185_69, zr185_72, zr185_73, zr185_76, zr185_78, zr185_80, zr185_81, zr185_84, zr185_85, zr185_86, zr185_88, zr185_89, zr185_92, zr185_93, zr185_95, zr185_98, zr185_102, zr185_103, zr185_106, zr185_109, zr185_110, zr185_113, zr185_114, zr185_117, zr185_118, zr185_119, zr185_122, zr185_124, zr185_126, zr185_129, zr185_132, zr185_135, zr185_136, zr185_137, zr185_138, zr185_139, zr185_142, zr185_143, zr185_144, zr185_146, zr185_147, zr185_150, zs_m0 N, zs_m1 N, zs_m2 N, zh_m0 ca cb cs, zq_kill_int, zq_kill_ref, zq_kill_ret, zq_kill_null, zq_kill_long, zq_rf_some, zq_rf_none, true_and, and_true, true_implies, not_true_eq_false, not_false_eq_true, false_implies, Bool.true_eq_false, Bool.false_eq_true, nI_1, zb_i0, zb_i1, zb_i2, Option.toList_some, Option.toList_none, List.cons_append, List.nil_append, true_or, or_true, implies_true, zb_it, zb_if, zb_10, zb_00, zb_n5, zb_n2, zb_m1, zb_m3, zb_m9, or_true, true_or, or_false, false_or, e2, x1, x2, zq_w_u, c10, e0]
    rw [e3, e4, spf_s hm, zb_mm1]
    rw [show n - m - 1 = n - (m + 1) by omega]
  rw [spf_0, zq_w_self] at loop
  simp only [Nat.pow_zero, Nat.div_one, Nat.sub_zero] at loop
  refine Eq.trans loop ?_
  rw [Nat.sub_self, show nI 0 - 1 = -1 from rfl, zr185_67]
  simp only [zr185_0, zr185_1, zr185_2, zr185_3, zr185_6, zr185_9, zr185_10, zr185_11, zr185_12, zr185_15, zr185_18, zr185_20, zr185_21, zr185_22, zr185_23, zr185_24, zr185_26, zr185_27, zr185_30, zr185_31, zr185_32, zr185_35, zr185_36, zr185_37, zr185_40, zr185_43, zr185_44, zr185_45, zr185_47, zr185_49, zr185_50, zr185_54, zr185_55, zr185_58, zr185_60, zr185_62, zr185_63, zr185_64, zr185_65, zr185_69, zr185_72, zr185_73, zr185_76, zr185_78, zr185_80, zr185_81, zr185_84, zr185_85, zr185_86, zr185_88, zr185_89, zr185_92, zr185_93, zr185_95, zr185_98, zr185_102, zr185_103, zr185_106, zr185_109, zr185_110, zr185_113, zr185_114, zr185_117, zr185_118, zr185_119, zr185_122, zr185_124, zr185_126, zr185_129, zr185_132, zr185_135, zr185_136, zr185_137, zr185_138, zr185_139, zr185_142, zr185_143, zr185_144, zr185_146, zr185_147, zr185_150, zq_kill_int, zq_kill_ref, zq_kill_ret, zq_kill_null, zq_kill_long, zq_rf_some, zq_rf_none, true_and, and_true, true_implies, not_true_eq_false, not_false_eq_true, false_implies, Bool.true_eq_false, Bool.false_eq_true, nI_1, zb_i0, zb_i1, zb_i2, Option.toList_some, Option.toList_none, List.cons_append, List.nil_append, true_or, or_true, implies_true, zb_it, zb_if, zb_10, zb_00, zb_n5, zb_n2, zb_m1, zb_m3, zb_m9, or_true, true_or, or_false, false_or]
theorem zw_le : ∀ W, W ≤ 7 → ∀ n, n ≤ 5 → W ^ n ≤ 16807 := by decide
theorem p_rounds {x : Int32} : zq_pair N 83 185 [.ref 0, .int x, .retAddr 0, .retAddr 0, .retAddr 0, .retAddr 0, .retAddr 0] [.ref 60, .int x, .retAddr 0, .retAddr 0, .retAddr 0, .retAddr 0, .retAddr 0, .retAddr 0] := by
  intro hi hl ca cb cs W P D h
  have hca := h.court
  have hc := zq_Ct_ok (N := N) (ca := ca) (cb := cb) (cs := cs) h.court
  have hct := h.2.2.2.2.2.1
  obtain ⟨⟨w1, w2, w3, w4, w5, w6, -⟩, -, wa⟩ := id hct
  by_cases hx : ¬ x < 1 ∧ ¬ 5 < x
  · have hin : zm_in x 1 5 = true := by unfold zm_in; rw [decide_eq_true_eq]; exact hx
    by_cases hW0 : W = 0
    · have e0 : (nI W = 0) = True := eq_true (by rw [hW0]; rfl)
      refine ⟨.int (-4), hi, hl, ca, cb, cs, hi, hl, W, P, D, fun Q => ?_, fun Q => ?_, h⟩
      · simp only [zr83_0, zr83_1, zr83_2, zr83_5, zr83_6, zr83_7, zr83_10, zr83_11, zr83_12, zr83_13, zr83_16, zr83_19, zr83_22, zr83_24, zr83_25, zr83_26, zr83_29, zr83_30, zr83_33, zr83_34, zr83_37, zr83_38, zr83_41, zr83_42, zr83_43, zr83_44, zr83_46, zr83_47, zr83_50, zr83_51, zr83_52, zr83_55, zr83_58, zr83_59, zr83_60, zr83_63, zr83_66, zr83_68, zr83_69, zr83_70, zr83_72, zr83_73, zr83_77, zr83_78, zr83_81, zr83_82, zr83_85, zr83_87, zr83_90, zr83_91, zr83_94, zr83_97, zr83_100, zr83_102, zr83_103, zr83_104, zr83_107, zr83_108, zr83_111, zr83_114, zr83_115, zr83_116, zr83_117, zr83_119, zr83_120, zr83_121, zr83_123, zr83_126, zr83_129, zr83_130, zr83_131, zr83_134, zr83_135, zr83_137, zr83_138, zr83_141, zr83_142, zs_x0 N, zh_x0 ca cb cs, hc.1, zq_kill_int, zq_kill_ref, zq_kill_ret, zq_kill_null, zq_kill_long, zq_rf_some, zq_rf_none, true_and, and_true, true_implies, not_true_eq_false, not_false_eq_true, false_implies, Bool.true_eq_false, Bool.false_eq_true, nI_1, zb_i0, zb_i1, zb_i2, Option.toList_some, Option.toList_none, List.cons_append, List.nil_append, true_or, or_true, implies_true, zb_it, zb_if, zb_10, zb_00, zb_n5, zb_n2, zb_m1, zb_m3, zb_m9, or_true, true_or, or_false, false_or, hx, w3, e0]
      · simp only [zr185_0, zr185_1, zr185_2, zr185_3, zr185_6, zr185_9, zr185_10, zr185_11, zr185_12, zr185_15, zr185_18, zr185_20, zr185_21, zr185_22, zr185_23, zr185_24, zr185_26, zr185_27, zr185_30, zr185_31, zr185_32, zr185_35, zr185_36, zr185_37, zr185_40, zr185_43, zr185_44, zr185_45, zr185_47, zr185_49, zr185_50, zr185_54, zr185_55, zr185_58, zr185_60, zr185_62, zr185_63, zr185_64, zr185_65, zr185_69, zr185_72, zr185_73, zr185_76, zr185_78, zr185_80, zr185_81, zr185_84, zr185_85, zr185_86, zr185_88, zr185_89, zr185_92, zr185_93, zr185_95, zr185_98, zr185_101, zr185_102, zr185_103, zr185_106, zr185_109, zr185_110, zr185_113, zr185_114, zr185_117, zr185_118, zr185_119, zr185_122, zr185_124, zr185_126, zr185_129, zr185_132, zr185_135, zr185_136, zr185_137, zr185_138, zr185_139, zr185_142, zr185_143, zr185_144, zr185_146, zr185_147, zr185_150, zs_m0 N, zs_m1 N, zs_m2 N, zh_m0 ca cb cs, zq_kill_int, zq_kill_ref, zq_kill_ret, zq_kill_null, zq_kill_long, zq_rf_some, zq_rf_none, true_and, and_true, true_implies, not_true_eq_false, not_false_eq_true, false_implies, Bool.true_eq_false, Bool.false_eq_true, nI_1, zb_i0, zb_i1, zb_i2, Option.toList_some, Option.toList_none, List.cons_append, List.nil_append, true_or, or_true, implies_true, zb_it, zb_if, zb_10, zb_00, zb_n5, zb_n2, zb_m1, zb_m3, zb_m9, or_true, true_or, or_false, false_or, k_M_in, hin, w4, e0]
    · have e0 : (nI W = 0) = False := eq_false (nI_ne0 (by omega) (by omega))
      obtain ⟨n, hn, rfl⟩ := nI_of2 (x := x) (M := 5) (n := 5) (by decide) (fun q => hx.1 (Int32.lt_trans q (by decide))) (Int32.not_lt.mp hx.2)
      have hn0 : 0 < n := by
        rcases Nat.eq_zero_or_pos n with q | q
        · subst q; exact absurd (by decide) hx.1
        · exact q
      have hall := zw_le W w1 n hn
      obtain ⟨C0, b1, b2, b3, b4, b5, -⟩ := k_Search_begin (N := N) (d := 56) (cb := cb) (cs := cs) (hl := hl) (n := n) hca w3 w1 (by omega)
      have hk : ∀ w, w < W → hi (ca + 3) w = hi 69 w ∧ (zm_rest hi w).toNatClampNeg ≤ 6 ∧ hi (ca + 8) w = nI (zm_rest hi w).toNatClampNeg := fun w hw => ⟨(wa w hw).1, (sm_rest6 hct w).1, by rw [(wa w hw).2.2.2.2.2.1]; exact (sm_rest6 hct w).2⟩
      have fn : (nI n < nI n) = False := eq_false (nI_nlt (Nat.le_refl _) (by omega))
      have fa : (nI (W ^ n) < nI (W ^ n)) = False := eq_false (nI_nlt (Nat.le_refl _) (by omega))
      generalize hg : (fun code => gro hi (pthc W n code) n) = g
      generalize hz : (fun code => pthc W n code 0) = z
      have l0 : (0 : Int64) = lN 0 := rfl
      have l1 : (1 : Int64) = lN 1 := rfl
      have i0 : zq_xS (0 : Int32) 6 := zb_x (k := 0) (n := 6) (by omega) (by omega)
      have i0' : zq_xS (0 : Int32) 7 := zb_x (k := 0) (n := 7) (by omega) (by omega)
      have i1 : (0 : Int32).toNatClampNeg = 0 := rfl
      -- the class
      obtain ⟨C2, hC2, loopC⟩ := zq_loopE (β := Option Value → zq_G → Prop) (n := W ^ n) (I := fun _ H => ∀ a, a ≠ 58 → H a = C0 a) (f := fun Q k (H : zq_I) => zq_P 58 83 75 [.ref 0, .int (nI n), .int (nI (W ^ n)), .int (rfi g z k), .long (lN (rcn g k)), .retAddr 0, .int (nI k)] [] (zq_SG N, H, hl, zq_HR ca cb ca) Q) (fun k hk' H hH => by
        have h3 : (nI k < nI (W ^ n)) = True := eq_true ((nI_ltI (by omega) (by omega)).mpr hk')
        have c10 : H ca 10 = nI W := by rw [hH _ (by omega), b2 _ (by omega)]; exact w3
        have c54 : H 54 4 = nI n := by rw [hH _ (by omega)]; exact b5
        generalize hH2 : zq_w H 58 (spf (H 58) W n k n) = H2
        have o2 : ∀ a, a ≠ 58 → H2 a = C0 a := fun a ha => by rw [← hH2, zq_w_ne ha, hH a ha]
        have p2 : ∀ i, i < n → pthc W n k i < W ∧ H2 58 i = nI (pthc W n k i) := fun i hi' => ⟨Nat.mod_lt _ (by omega), by rw [← hH2, zq_w_eq]; unfold spf; rw [if_pos (by omega)]⟩
        have gr := fun Q => k_Search_goesRound (N := N) (d := 54) (cb := cb) (hl := hl) (Q := Q) hca hn0 hn w1 p2 (by rw [o2 _ (by omega)]; exact b5) (fun w hw => by rw [o2 _ (by omega), o2 _ (by omega), b2 _ (by omega), b2 _ (by omega)]; exact hk w hw)
        have ge : gro hi (pthc W n k) n = g k := by rw [← hg]
        have ze : pthc W n k 0 = z k := by rw [← hz]
        have hrc := rcn_le g k
        refine ⟨H2, o2, fun Q => ?_⟩
        rw [zr83_75]
        simp only [zr83_0, zr83_1, zr83_2, zr83_5, zr83_6, zr83_7, zr83_10, zr83_11, zr83_12, zr83_13, zr83_16, zr83_19, zr83_22, zr83_24, zr83_25, zr83_26, zr83_29, zr83_30, zr83_33, zr83_34, zr83_37, zr83_38, zr83_41, zr83_42, zr83_43, zr83_44, zr83_46, zr83_47, zr83_50, zr83_51, zr83_52, zr83_55, zr83_58, zr83_59, zr83_60, zr83_63, zr83_66, zr83_68, zr83_69, zr83_70, zr83_72, zr83_73, zr83_77, zr83_78, zr83_81, zr83_82, zr83_85, zr83_87, zr83_90, zr83_91, zr83_94, zr83_97, zr83_100, zr83_102, zr83_103, zr83_104, zr83_107, zr83_108, zr83_111, zr83_114, zr83_115, zr83_116, zr83_117, zr83_119, zr83_120, zr83_121, zr83_123, zr83_126, zr83_129, zr83_130, zr83_131, zr83_134, zr83_135, zr83_137, zr83_138, zr83_141, zr83_142, zs_x0 N, zs_q0 N, zh_x0 ca cb ca, zh_q0 ca cb ca, zq_kill_int, zq_kill_ref, zq_kill_ret, zq_kill_null, zq_kill_long, zq_rf_some, zq_rf_none, true_and, and_true, true_implies, not_true_eq_false, not_false_eq_true, false_implies, Bool.true_eq_false, Bool.false_eq_true, nI_1, zb_i0, zb_i1, zb_i2, Option.toList_some, Option.toList_none, List.cons_append, List.nil_append, true_or, or_true, implies_true, zb_it, zb_if, zb_10, zb_00, zb_n5, zb_n2, zb_m1, zb_m3, zb_m9, or_true, true_or, or_false, false_or, h3, k_Search_spell hca hn (show 0 < W by omega) w1 c10 c54 (show k < 20000 by omega), hH2, gr, ge, zl_cmp0 (show rcn g k < 2 ^ 63 by omega), i0, i1, (p2 0 hn0).2, ze, l1, lN_add]
        simp only [rfi_s, rcn_s]
        cases g k with
        | false => simp
        | true => by_cases q : rcn g k = 0 <;> simp [q]) C0 (fun _ _ => rfl)
      have powC := fun Q => zq_loop (n := n) (f := fun k => zq_P 58 83 45 [.ref 0, .int (nI n), .int (nI (W ^ k)), .int (nI k), .retAddr 0, .retAddr 0, .retAddr 0] [] (zq_SG N, C0, hl, zq_HR ca cb ca) Q) fun k hk' => by
        have h3 : (nI k < nI n) = True := eq_true ((nI_ltI (by omega) (by omega)).mpr hk')
        have c10 : C0 ca 10 = nI W := by rw [b2 _ (by omega)]; exact w3
        rw [zr83_45]
        simp only [zr83_0, zr83_1, zr83_2, zr83_5, zr83_6, zr83_7, zr83_10, zr83_11, zr83_12, zr83_13, zr83_16, zr83_19, zr83_22, zr83_24, zr83_25, zr83_26, zr83_29, zr83_30, zr83_33, zr83_34, zr83_37, zr83_38, zr83_41, zr83_42, zr83_43, zr83_44, zr83_46, zr83_47, zr83_50, zr83_51, zr83_52, zr83_55, zr83_58, zr83_59, zr83_60, zr83_63, zr83_66, zr83_68, zr83_69, zr83_70, zr83_72, zr83_73, zr83_77, zr83_78, zr83_81, zr83_82, zr83_85, zr83_87, zr83_90, zr83_91, zr83_94, zr83_97, zr83_100, zr83_102, zr83_103, zr83_104, zr83_107, zr83_108, zr83_111, zr83_114, zr83_115, zr83_116, zr83_117, zr83_119, zr83_120, zr83_121, zr83_123, zr83_126, zr83_129, zr83_130, zr83_131, zr83_134, zr83_135, zr83_137, zr83_138, zr83_141, zr83_142, zs_x0 N, zh_x0 ca cb ca, hc.1, zq_kill_int, zq_kill_ref, zq_kill_ret, zq_kill_null, zq_kill_long, zq_rf_some, zq_rf_none, true_and, and_true, true_implies, not_true_eq_false, not_false_eq_true, false_implies, Bool.true_eq_false, Bool.false_eq_true, nI_1, zb_i0, zb_i1, zb_i2, Option.toList_some, Option.toList_none, List.cons_append, List.nil_append, true_or, or_true, implies_true, zb_it, zb_if, zb_10, zb_00, zb_n5, zb_n2, zb_m1, zb_m3, zb_m9, or_true, true_or, or_false, false_or, h3, c10, pk_mul, Nat.pow_succ]
      have f2 : ∀ a, a < 54 ∨ 58 < a → C2 a = hi a := fun a ha => by rw [hC2 a (by omega), b2 a (by omega)]
      generalize hfi : rfi g z (W ^ n) = fi at *
      generalize hcn : rcn g (W ^ n) = cn at *
      have hcn2 : cn ≤ 16807 := by rw [← hcn]; exact Nat.le_trans (rcn_le g _) hall
      have m2 : ∀ a, a ≠ 0 → a < 54 ∨ 58 < a → zq_u C2 0 9 fi a = hi a := fun a a0 ha => by rw [zq_u_ne a0, f2 a ha]
      -- the reference
      obtain ⟨⟨M2, v6, v7⟩, hM2, loopM⟩ := zq_loopE (β := Option Value → zq_G → Prop) (n := W ^ n) (I := fun _ (v : zq_I × Value × Value) => ∀ a, a ≠ 80 → v.1 a = zq_u C2 0 9 fi a) (f := fun Q k (v : zq_I × Value × Value) => zq_P 58 185 52 [.ref 60, .int (nI n), .int (nI (W ^ n)), .int (nI (rcn g k)), .int (rfi g z k), .int (nI k), v.2.1, v.2.2] [] (zq_SG N, v.1, tlc hl cn 1, zq_HR ca cb ca) Q) (fun k hk' v hv => by
        obtain ⟨M, v6, v7⟩ := v
        replace hv : ∀ a, a ≠ 80 → M a = zq_u C2 0 9 fi a := hv
        have h3 : (nI k < nI (W ^ n)) = True := eq_true ((nI_ltI (by omega) (by omega)).mpr hk')
        have c10 : M 60 10 = nI W := by rw [hv _ (by omega), m2 _ (by omega) (by omega)]; exact w4
        generalize hM2 : zq_w M 80 (spf (M 80) W n k n) = M3
        have o2 : ∀ a, a ≠ 80 → M3 a = zq_u C2 0 9 fi a := fun a ha => by rw [← hM2, zq_w_ne ha]; exact hv a ha
        have p2 : ∀ i, i < n → pthc W n k i < W ∧ M3 80 i = nI (pthc W n k i) := fun i hi' => ⟨Nat.mod_lt _ (by omega), by rw [← hM2, zq_w_eq]; unfold spf; rw [if_pos (by omega)]⟩
        have o69 : M3 69 = hi 69 := by rw [o2 _ (by omega), m2 _ (by omega) (by omega)]
        have o60 : M3 60 = hi 60 := by rw [o2 _ (by omega), m2 _ (by omega) (by omega)]
        have gr := fun Q => k_M_goesRound (N := N) (d := 55) (ca := ca) (cb := cb) (cs := ca) (hl := tlc hl cn 1) (Q := Q) hn0 hn w1 p2 (fun w hw => by rw [o69]; refine ⟨rfl, (hk w hw).2.1, ?_⟩; unfold zm_rest; rw [o69, o60]; exact (sm_rest6 hct w).2)
        have ge : gro hi (pthc W n k) n = g k := by rw [← hg]
        have ze : pthc W n k 0 = z k := by rw [← hz]
        have hrc := rcn_le g k
        have er : (nI (rcn g k) = 0) = (rcn g k = 0) := zb_eq (b := 0) (by omega) (by omega)
        have sp := fun Q => k_M_rounds_spell (N := N) (ca := ca) (cb := cb) (cs := ca) (d := 58) (hl := tlc hl cn 1) (Q := Q) (v3 := .int (nI (rcn g k))) (v4 := .int (rfi g z k)) (v5 := .null) (y := nI (W ^ n)) (n := n) (v1 := .int (nI n)) rfl hn (show 0 < W by omega) w1 c10 (show k < 20000 by omega)
        rw [hM2] at sp
        refine ⟨(M3, .int (nI (k / W ^ n)), .int (-1)), o2, fun Q => ?_⟩
        dsimp only
        rw [zr185_52]
        simp only [zr185_0, zr185_1, zr185_2, zr185_3, zr185_6, zr185_9, zr185_10, zr185_11, zr185_12, zr185_15, zr185_18, zr185_20, zr185_21, zr185_22, zr185_23, zr185_24, zr185_26, zr185_27, zr185_30, zr185_31, zr185_32, zr185_35, zr185_36, zr185_37, zr185_40, zr185_43, zr185_44, zr185_45, zr185_47, zr185_49, zr185_50, zr185_54, zr185_55, zr185_58, zr185_60, zr185_62, zr185_63, zr185_64, zr185_65, zr185_69, zr185_72, zr185_73, zr185_76, zr185_78, zr185_80, zr185_81, zr185_84, zr185_85, zr185_86, zr185_88, zr185_89, zr185_92, zr185_93, zr185_95, zr185_98, zr185_102, zr185_103, zr185_106, zr185_109, zr185_110, zr185_113, zr185_114, zr185_117, zr185_118, zr185_119, zr185_122, zr185_124, zr185_126, zr185_129, zr185_132, zr185_135, zr185_136, zr185_137, zr185_138, zr185_139, zr185_142, zr185_143, zr185_144, zr185_146, zr185_147, zr185_150, zs_m0 N, zs_m1 N, zs_m2 N, zh_m0 ca cb ca, zq_kill_int, zq_kill_ref, zq_kill_ret, zq_kill_null, zq_kill_long, zq_rf_some, zq_rf_none, true_and, and_true, true_implies, not_true_eq_false, not_false_eq_true, false_implies, Bool.true_eq_false, Bool.false_eq_true, nI_1, zb_i0, zb_i1, zb_i2, Option.toList_some, Option.toList_none, List.cons_append, List.nil_append, true_or, or_true, implies_true, zb_it, zb_if, zb_10, zb_00, zb_n5, zb_n2, zb_m1, zb_m3, zb_m9, or_true, true_or, or_false, false_or, h3, sp]
        simp only [zr185_0, zr185_1, zr185_2, zr185_3, zr185_6, zr185_9, zr185_10, zr185_11, zr185_12, zr185_15, zr185_18, zr185_20, zr185_21, zr185_22, zr185_23, zr185_24, zr185_26, zr185_27, zr185_30, zr185_31, zr185_32, zr185_35, zr185_36, zr185_37, zr185_40, zr185_43, zr185_44, zr185_45, zr185_47, zr185_49, zr185_50, zr185_54, zr185_55, zr185_58, zr185_60, zr185_62, zr185_63, zr185_64, zr185_65, zr185_69, zr185_72, zr185_73, zr185_76, zr185_78, zr185_80, zr185_81, zr185_84, zr185_85, zr185_86, zr185_88, zr185_89, zr185_92, zr185_93, zr185_95, zr185_98, zr185_101, zr185_102, zr185_103, zr185_106, zr185_109, zr185_110, zr185_113, zr185_114, zr185_117, zr185_118, zr185_119, zr185_122, zr185_124, zr185_126, zr185_129, zr185_132, zr185_135, zr185_136, zr185_137, zr185_138, zr185_139, zr185_142, zr185_143, zr185_144, zr185_146, zr185_147, zr185_150, zs_m0 N, zs_m1 N, zs_m2 N, zh_m0 ca cb ca, zq_kill_int, zq_kill_ref, zq_kill_ret, zq_kill_null, zq_kill_long, zq_rf_some, zq_rf_none, true_and, and_true, true_implies, not_true_eq_false, not_false_eq_true, false_implies, Bool.true_eq_false, Bool.false_eq_true, nI_1, zb_i0, zb_i1, zb_i2, Option.toList_some, Option.toList_none, List.cons_append, List.nil_append, true_or, or_true, implies_true, zb_it, zb_if, zb_10, zb_00, zb_n5, zb_n2, zb_m1, zb_m3, zb_m9, or_true, true_or, or_false, false_or, gr, ge, er, i0', i1, (p2 0 hn0).2, ze]
        simp only [rfi_s, rcn_s]
        cases g k with
        | false => simp
        | true => by_cases q : rcn g k = 0 <;> simp [q]) (zq_u C2 0 9 fi, .retAddr 0, .retAddr 0) (fun _ _ => rfl)
      have powM := fun Q => zq_loop (n := n) (f := fun k => zq_P 58 185 25 [.ref 60, .int (nI n), .int (nI (W ^ k)), .int (nI k), .retAddr 0, .retAddr 0, .retAddr 0, .retAddr 0] [] (zq_SG N, zq_u C2 0 9 fi, tlc hl cn 1, zq_HR ca cb ca) Q) fun k hk' => by
        have h3 : (nI k < nI n) = True := eq_true ((nI_ltI (by omega) (by omega)).mpr hk')
        have c10 : zq_u C2 0 9 fi 60 10 = nI W := by rw [m2 _ (by omega) (by omega)]; exact w4
        rw [zr185_25]
        simp only [zr185_0, zr185_1, zr185_2, zr185_3, zr185_6, zr185_9, zr185_10, zr185_11, zr185_12, zr185_15, zr185_18, zr185_20, zr185_21, zr185_22, zr185_23, zr185_24, zr185_26, zr185_27, zr185_30, zr185_31, zr185_32, zr185_35, zr185_36, zr185_37, zr185_40, zr185_43, zr185_44, zr185_45, zr185_47, zr185_49, zr185_50, zr185_54, zr185_55, zr185_58, zr185_60, zr185_62, zr185_63, zr185_64, zr185_65, zr185_69, zr185_72, zr185_73, zr185_76, zr185_78, zr185_80, zr185_81, zr185_84, zr185_85, zr185_86, zr185_88, zr185_89, zr185_92, zr185_93, zr185_95, zr185_98, zr185_101, zr185_102, zr185_103, zr185_106, zr185_109, zr185_110, zr185_113, zr185_114, zr185_117, zr185_118, zr185_119, zr185_122, zr185_124, zr185_126, zr185_129, zr185_132, zr185_135, zr185_136, zr185_137, zr185_138, zr185_139, zr185_142, zr185_143, zr185_144, zr185_146, zr185_147, zr185_150, zs_m0 N, zs_m1 N, zs_m2 N, zh_m0 ca cb ca, zq_kill_int, zq_kill_ref, zq_kill_ret, zq_kill_null, zq_kill_long, zq_rf_some, zq_rf_none, true_and, and_true, true_implies, not_true_eq_false, not_false_eq_true, false_implies, Bool.true_eq_false, Bool.false_eq_true, nI_1, zb_i0, zb_i1, zb_i2, Option.toList_some, Option.toList_none, List.cons_append, List.nil_append, true_or, or_true, implies_true, zb_it, zb_if, zb_10, zb_00, zb_n5, zb_n2, zb_m1, zb_m3, zb_m9, or_true, true_or, or_false, false_or, h3, c10, pk_mul, Nat.pow_succ]
      refine ⟨.int 1, zq_u C2 0 9 fi, tlc hl cn 1, ca, cb, ca, zq_u M2 60 2 fi, tlm (tlc hl cn 1) cn 1, W, P, D, fun Q => ?_, fun Q => ?_, ?_⟩
      · have pc : zq_P 58 83 45 [.ref 0, .int (nI n), .int 1, .int 0, .retAddr 0, .retAddr 0, .retAddr 0] [] (zq_SG N, C0, hl, zq_HR ca cb ca) Q = _ := powC Q
        have lc : zq_P 58 83 75 [.ref 0, .int (nI n), .int (nI (W ^ n)), .int (-9), .long 0, .retAddr 0, .int 0] [] (zq_SG N, C0, hl, zq_HR ca cb ca) Q = _ := loopC Q
        have tl := fun Q => k_EF_tell (N := N) (ca := ca) (cb := cb) (cs := ca) (d := 56) (hi := zq_u C2 0 9 fi) (hl := hl) (Q := Q) (u := cn) (l := 1) (by omega) (by omega) (by omega)
        simp only [zr83_0, zr83_1, zr83_2, zr83_5, zr83_6, zr83_7, zr83_10, zr83_11, zr83_12, zr83_13, zr83_16, zr83_19, zr83_22, zr83_24, zr83_25, zr83_26, zr83_29, zr83_30, zr83_33, zr83_34, zr83_37, zr83_38, zr83_41, zr83_42, zr83_43, zr83_44, zr83_46, zr83_47, zr83_50, zr83_51, zr83_52, zr83_55, zr83_58, zr83_59, zr83_60, zr83_63, zr83_66, zr83_68, zr83_69, zr83_70, zr83_72, zr83_73, zr83_77, zr83_78, zr83_81, zr83_82, zr83_85, zr83_87, zr83_90, zr83_91, zr83_94, zr83_97, zr83_100, zr83_102, zr83_103, zr83_104, zr83_107, zr83_108, zr83_111, zr83_114, zr83_115, zr83_116, zr83_117, zr83_119, zr83_120, zr83_121, zr83_123, zr83_126, zr83_129, zr83_130, zr83_131, zr83_134, zr83_135, zr83_137, zr83_138, zr83_141, zr83_142, zs_x0 N, zh_x0 ca cb cs, zs_q0 N, hc.1, zq_kill_int, zq_kill_ref, zq_kill_ret, zq_kill_null, zq_kill_long, zq_rf_some, zq_rf_none, true_and, and_true, true_implies, not_true_eq_false, not_false_eq_true, false_implies, Bool.true_eq_false, Bool.false_eq_true, nI_1, zb_i0, zb_i1, zb_i2, Option.toList_some, Option.toList_none, List.cons_append, List.nil_append, true_or, or_true, implies_true, zb_it, zb_if, zb_10, zb_00, zb_n5, zb_n2, zb_m1, zb_m3, zb_m9, or_true, true_or, or_false, false_or, hx, w3, e0, b1]
        refine Eq.trans pc ?_
        rw [zr83_45]
        simp only [zr83_0, zr83_1, zr83_2, zr83_5, zr83_6, zr83_7, zr83_10, zr83_11, zr83_12, zr83_13, zr83_16, zr83_19, zr83_22, zr83_24, zr83_25, zr83_26, zr83_29, zr83_30, zr83_33, zr83_34, zr83_37, zr83_38, zr83_41, zr83_42, zr83_43, zr83_44, zr83_46, zr83_47, zr83_50, zr83_51, zr83_52, zr83_55, zr83_58, zr83_59, zr83_60, zr83_63, zr83_66, zr83_68, zr83_69, zr83_70, zr83_72, zr83_73, zr83_77, zr83_78, zr83_81, zr83_82, zr83_85, zr83_87, zr83_90, zr83_91, zr83_94, zr83_97, zr83_100, zr83_102, zr83_103, zr83_104, zr83_107, zr83_108, zr83_111, zr83_114, zr83_115, zr83_116, zr83_117, zr83_119, zr83_120, zr83_121, zr83_123, zr83_126, zr83_129, zr83_130, zr83_131, zr83_134, zr83_135, zr83_137, zr83_138, zr83_141, zr83_142, zq_kill_int, zq_kill_ref, zq_kill_ret, zq_kill_null, zq_kill_long, zq_rf_some, zq_rf_none, true_and, and_true, true_implies, not_true_eq_false, not_false_eq_true, false_implies, Bool.true_eq_false, Bool.false_eq_true, nI_1, zb_i0, zb_i1, zb_i2, Option.toList_some, Option.toList_none, List.cons_append, List.nil_append, true_or, or_true, implies_true, zb_it, zb_if, zb_10, zb_00, zb_n5, zb_n2, zb_m1, zb_m3, zb_m9, or_true, true_or, or_false, false_or, fn]
        refine Eq.trans lc ?_
        rw [zr83_75]
        simp only [zr83_0, zr83_1, zr83_2, zr83_5, zr83_6, zr83_7, zr83_10, zr83_11, zr83_12, zr83_13, zr83_16, zr83_19, zr83_22, zr83_24, zr83_25, zr83_26, zr83_29, zr83_30, zr83_33, zr83_34, zr83_37, zr83_38, zr83_41, zr83_42, zr83_43, zr83_44, zr83_46, zr83_47, zr83_50, zr83_51, zr83_52, zr83_55, zr83_58, zr83_59, zr83_60, zr83_63, zr83_66, zr83_68, zr83_69, zr83_70, zr83_72, zr83_73, zr83_77, zr83_78, zr83_81, zr83_82, zr83_85, zr83_87, zr83_90, zr83_91, zr83_94, zr83_97, zr83_100, zr83_102, zr83_103, zr83_104, zr83_107, zr83_108, zr83_111, zr83_114, zr83_115, zr83_116, zr83_117, zr83_119, zr83_120, zr83_121, zr83_123, zr83_126, zr83_129, zr83_130, zr83_131, zr83_134, zr83_135, zr83_137, zr83_138, zr83_141, zr83_142, zs_x0 N, zh_x0 ca cb ca, zq_kill_int, zq_kill_ref, zq_kill_ret, zq_kill_null, zq_kill_long, zq_rf_some, zq_rf_none, true_and, and_true, true_implies, not_true_eq_false, not_false_eq_true, false_implies, Bool.true_eq_false, Bool.false_eq_true, nI_1, zb_i0, zb_i1, zb_i2, Option.toList_some, Option.toList_none, List.cons_append, List.nil_append, true_or, or_true, implies_true, zb_it, zb_if, zb_10, zb_00, zb_n5, zb_n2, zb_m1, zb_m3, zb_m9, or_true, true_or, or_false, false_or, fa, l1, tl]
      · have pm : zq_P 58 185 25 [.ref 60, .int (nI n), .int 1, .int 0, .retAddr 0, .retAddr 0, .retAddr 0, .retAddr 0] [] (zq_SG N, zq_u C2 0 9 fi, tlc hl cn 1, zq_HR ca cb ca) Q = _ := powM Q
        have lm : zq_P 58 185 52 [.ref 60, .int (nI n), .int (nI (W ^ n)), .int 0, .int (-9), .int 0, .retAddr 0, .retAddr 0] [] (zq_SG N, zq_u C2 0 9 fi, tlc hl cn 1, zq_HR ca cb ca) Q = _ := loopM Q
        have c10 : zq_u C2 0 9 fi 60 10 = nI W := by rw [m2 _ (by omega) (by omega)]; exact w4
        have pt := fun Q => k_M_part (N := N) (ca := ca) (cb := cb) (cs := ca) (d := 57) (hi := M2) (hl := tlc hl cn 1) (Q := Q) (u := cn) (l := 1) (by omega) (by omega) (by omega)
        simp only [zr185_0, zr185_1, zr185_2, zr185_3, zr185_6, zr185_9, zr185_10, zr185_11, zr185_12, zr185_15, zr185_18, zr185_20, zr185_21, zr185_22, zr185_23, zr185_24, zr185_26, zr185_27, zr185_30, zr185_31, zr185_32, zr185_35, zr185_36, zr185_37, zr185_40, zr185_43, zr185_44, zr185_45, zr185_47, zr185_49, zr185_50, zr185_54, zr185_55, zr185_58, zr185_60, zr185_62, zr185_63, zr185_64, zr185_65, zr185_69, zr185_72, zr185_73, zr185_76, zr185_78, zr185_80, zr185_81, zr185_84, zr185_85, zr185_86, zr185_88, zr185_89, zr185_92, zr185_93, zr185_95, zr185_98, zr185_101, zr185_102, zr185_103, zr185_106, zr185_109, zr185_110, zr185_113, zr185_114, zr185_117, zr185_118, zr185_119, zr185_122, zr185_124, zr185_126, zr185_129, zr185_132, zr185_135, zr185_136, zr185_137, zr185_138, zr185_139, zr185_142, zr185_143, zr185_144, zr185_146, zr185_147, zr185_150, zs_m0 N, zs_m1 N, zs_m2 N, zh_m0 ca cb ca, zq_kill_int, zq_kill_ref, zq_kill_ret, zq_kill_null, zq_kill_long, zq_rf_some, zq_rf_none, true_and, and_true, true_implies, not_true_eq_false, not_false_eq_true, false_implies, Bool.true_eq_false, Bool.false_eq_true, nI_1, zb_i0, zb_i1, zb_i2, Option.toList_some, Option.toList_none, List.cons_append, List.nil_append, true_or, or_true, implies_true, zb_it, zb_if, zb_10, zb_00, zb_n5, zb_n2, zb_m1, zb_m3, zb_m9, or_true, true_or, or_false, false_or, k_M_in, hin, c10, e0]
        refine Eq.trans pm ?_
        rw [zr185_25]
        simp only [zr185_0, zr185_1, zr185_2, zr185_3, zr185_6, zr185_9, zr185_10, zr185_11, zr185_12, zr185_15, zr185_18, zr185_20, zr185_21, zr185_22, zr185_23, zr185_24, zr185_26, zr185_27, zr185_30, zr185_31, zr185_32, zr185_35, zr185_36, zr185_37, zr185_40, zr185_43, zr185_44, zr185_45, zr185_47, zr185_49, zr185_50, zr185_54, zr185_55, zr185_58, zr185_60, zr185_62, zr185_63, zr185_64, zr185_65, zr185_69, zr185_72, zr185_73, zr185_76, zr185_78, zr185_80, zr185_81, zr185_84, zr185_85, zr185_86, zr185_88, zr185_89, zr185_92, zr185_93, zr185_95, zr185_98, zr185_101, zr185_102, zr185_103, zr185_106, zr185_109, zr185_110, zr185_113, zr185_114, zr185_117, zr185_118, zr185_119, zr185_122, zr185_124, zr185_126, zr185_129, zr185_132, zr185_135, zr185_136, zr185_137, zr185_138, zr185_139, zr185_142, zr185_143, zr185_144, zr185_146, zr185_147, zr185_150, zq_kill_int, zq_kill_ref, zq_kill_ret, zq_kill_null, zq_kill_long, zq_rf_some, zq_rf_none, true_and, and_true, true_implies, not_true_eq_false, not_false_eq_true, false_implies, Bool.true_eq_false, Bool.false_eq_true, nI_1, zb_i0, zb_i1, zb_i2, Option.toList_some, Option.toList_none, List.cons_append, List.nil_append, true_or, or_true, implies_true, zb_it, zb_if, zb_10, zb_00, zb_n5, zb_n2, zb_m1, zb_m3, zb_m9, or_true, true_or, or_false, false_or, fn]
        refine Eq.trans lm ?_
        rw [zr185_52]
        simp only [zr185_0, zr185_1, zr185_2, zr185_3, zr185_6, zr185_9, zr185_10, zr185_11, zr185_12, zr185_15, zr185_18, zr185_20, zr185_21, zr185_22, zr185_23, zr185_24, zr185_26, zr185_27, zr185_30, zr185_31, zr185_32, zr185_35, zr185_36, zr185_37, zr185_40, zr185_43, zr185_44, zr185_45, zr185_47, zr185_49, zr185_50, zr185_54, zr185_55, zr185_58, zr185_60, zr185_62, zr185_63, zr185_64, zr185_65, zr185_69, zr185_72, zr185_73, zr185_76, zr185_78, zr185_80, zr185_81, zr185_84, zr185_85, zr185_86, zr185_88, zr185_89, zr185_92, zr185_93, zr185_95, zr185_98, zr185_101, zr185_102, zr185_103, zr185_106, zr185_109, zr185_110, zr185_113, zr185_114, zr185_117, zr185_118, zr185_119, zr185_122, zr185_124, zr185_126, zr185_129, zr185_132, zr185_135, zr185_136, zr185_137, zr185_138, zr185_139, zr185_142, zr185_143, zr185_144, zr185_146, zr185_147, zr185_150, zr118_0, zr118_1, zr118_2, zr118_5, zr118_6, zs_m0 N, zs_m1 N, zs_m2 N, zh_m0 ca cb ca, zq_kill_int, zq_kill_ref, zq_kill_ret, zq_kill_null, zq_kill_long, zq_rf_some, zq_rf_none, true_and, and_true, true_implies, not_true_eq_false, not_false_eq_true, false_implies, Bool.true_eq_false, Bool.false_eq_true, nI_1, zb_i0, zb_i1, zb_i2, Option.toList_some, Option.toList_none, List.cons_append, List.nil_append, true_or, or_true, implies_true, zb_it, zb_if, zb_10, zb_00, zb_n5, zb_n2, zb_m1, zb_m3, zb_m9, or_true, true_or, or_false, false_or, fa, hfi, hcn, l1, nI_l (show cn < 2 ^ 31 by omega), pt]
      · have hM3 : ∀ a, a ≠ 80 → M2 a = zq_u C2 0 9 fi a := hM2
        refine h.search (C2 := zq_u C2 0 9 fi) (fun a ha a0 => m2 a a0 (by omega)) (by rw [zq_u_kn (by omega), f2 0 (by omega)]) (by rw [zq_u_eq, zq_u_eq]) (fun a ha => by rw [zq_u_ne (by omega), hM3 a (by omega)]) (fun a a1 a2 => by rw [zq_u_ne (by omega), hM3 a (by omega)]) (fun f f1 _ => by rw [zq_u_kn f1, hM3 60 (by omega)]) tl_both.1 tl_both.2
  · refine ⟨.int (-1), hi, hl, ca, cb, cs, hi, hl, W, P, D, fun Q => ?_, fun Q => ?_, h⟩
    · simp only [zr83_0, zr83_1, zr83_2, zr83_5, zr83_6, zr83_7, zr83_10, zr83_11, zr83_12, zr83_13, zr83_16, zr83_19, zr83_22, zr83_24, zr83_25, zr83_26, zr83_29, zr83_30, zr83_33, zr83_34, zr83_37, zr83_38, zr83_41, zr83_42, zr83_43, zr83_44, zr83_46, zr83_47, zr83_50, zr83_51, zr83_52, zr83_55, zr83_58, zr83_59, zr83_60, zr83_63, zr83_66, zr83_68, zr83_69, zr83_70, zr83_72, zr83_73, zr83_77, zr83_78, zr83_81, zr83_82, zr83_85, zr83_87, zr83_90, zr83_91, zr83_94, zr83_97, zr83_100, zr83_102, zr83_103, zr83_104, zr83_107, zr83_108, zr83_111, zr83_114, zr83_115, zr83_116, zr83_117, zr83_119, zr83_120, zr83_121, zr83_123, zr83_126, zr83_129, zr83_130, zr83_131, zr83_134, zr83_135, zr83_137, zr83_138, zr83_141, zr83_142, zs_x0 N, zh_x0 ca cb cs, zq_kill_int, zq_kill_ref, zq_kill_ret, zq_kill_null, zq_kill_long, zq_rf_some, zq_rf_none, true_and, and_true, true_implies, not_true_eq_false, not_false_eq_true, false_implies, Bool.true_eq_false, Bool.false_eq_true, nI_1, zb_i0, zb_i1, zb_i2, Option.toList_some, Option.toList_none, List.cons_append, List.nil_append, true_or, or_true, implies_true, zb_it, zb_if, zb_10, zb_00, zb_n5, zb_n2, zb_m1, zb_m3, zb_m9, or_true, true_or, or_false, false_or]
      by_cases q1 : x < 1
      · simp [q1]
      · by_cases q2 : 5 < x
        · simp [q1, q2]
        · exact absurd ⟨q1, q2⟩ hx
    · simp only [zr185_0, zr185_1, zr185_2, zr185_3, zr185_6, zr185_9, zr185_10, zr185_11, zr185_12, zr185_15, zr185_18, zr185_20, zr185_21, zr185_22, zr185_23, zr185_24, zr185_26, zr185_27, zr185_30, zr185_31, zr185_32, zr185_35, zr185_36, zr185_37, zr185_40, zr185_43, zr185_44, zr185_45, zr185_47, zr185_49, zr185_50, zr185_54, zr185_55, zr185_58, zr185_60, zr185_62, zr185_63, zr185_64, zr185_65, zr185_69, zr185_72, zr185_73, zr185_76, zr185_78, zr185_80, zr185_81, zr185_84, zr185_85, zr185_86, zr185_88, zr185_89, zr185_92, zr185_93, zr185_95, zr185_98, zr185_101, zr185_102, zr185_103, zr185_106, zr185_109, zr185_110, zr185_113, zr185_114, zr185_117, zr185_118, zr185_119, zr185_122, zr185_124, zr185_126, zr185_129, zr185_132, zr185_135, zr185_136, zr185_137, zr185_138, zr185_139, zr185_142, zr185_143, zr185_144, zr185_146, zr185_147, zr185_150, zs_m0 N, zs_m1 N, zs_m2 N, zh_m0 ca cb cs, zq_kill_int, zq_kill_ref, zq_kill_ret, zq_kill_null, zq_kill_long, zq_rf_some, zq_rf_none, true_and, and_true, true_implies, not_true_eq_false, not_false_eq_true, false_implies, Bool.true_eq_false, Bool.false_eq_true, nI_1, zb_i0, zb_i1, zb_i2, Option.toList_some, Option.toList_none, List.cons_append, List.nil_append, true_or, or_true, implies_true, zb_it, zb_if, zb_10, zb_00, zb_n5, zb_n2, zb_m1, zb_m3, zb_m9, or_true, true_or, or_false, false_or, k_M_in, zm_in, hx, decide_false]
end Z48
