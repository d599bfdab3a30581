/-! way, mark, count -/
def zq_Sp (S : zq_S) (hr : zq_O) (a p T : Nat) : Prop := (zq_iS S a 3 ∧ zq_vS S a 3) ∧ hr a 0 = some p ∧ zq_aS S p ∧ zq_aW S p ∧ zq_lS S p ∧ zq_ln S p = T
def zq_Ss (S : zq_S) (hr : zq_O) (A b M T : Nat) : Prop := (zq_rS S A ∧ zq_lS S A ∧ zq_ln S A = M) ∧ ∀ r, r < M → hr A r = some (b + 2 * r) ∧ zq_Sp S hr (b + 2 * r) (b + 1 + 2 * r) T
theorem zq_Ss_rows {N ca cb cs : Nat} : zq_Ss (zq_SG N) (zq_HR ca cb cs) 1 2 6 40 := by
  refine ⟨by simp only [zs_x0 N, and_self], fun r hr => ?_⟩
  unfold zq_Sp
  match r, hr with
  | 0, _ | 1, _ | 2, _ | 3, _ | 4, _ | 5, _ => simp only [Nat.reduceMul, Nat.reduceAdd, zs_s0 N, zs_s1 N, zh_s0 ca cb cs, zh_x0 ca cb cs, and_self]
theorem zq_Ss_texts {N ca cb cs : Nat} : zq_Ss (zq_SG N) (zq_HR ca cb cs) 14 15 4 60 := by
  refine ⟨by simp only [zs_x0 N, and_self], fun r hr => ?_⟩
  unfold zq_Sp
  match r, hr with
  | 0, _ | 1, _ | 2, _ | 3, _ => simp only [Nat.reduceMul, Nat.reduceAdd, zs_s0 N, zs_s1 N, zh_s0 ca cb cs, zh_x0 ca cb cs, and_self]
theorem zq_Ss_kept {N ca cb cs : Nat} : zq_Ss (zq_SG N) (zq_HR ca cb cs) 23 24 3 40 := by
  refine ⟨by simp only [zs_x0 N, and_self], fun r hr => ?_⟩
  unfold zq_Sp
  match r, hr with
  | 0, _ | 1, _ | 2, _ => simp only [Nat.reduceMul, Nat.reduceAdd, zs_s0 N, zs_s1 N, zh_s0 ca cb cs, zh_x0 ca cb cs, and_self]
section Z27
variable {N ca cb cs d W P D : Nat} {hi : zq_I} {hl : zq_J} {Q : Option Value → zq_G → Prop} {x z : Int32}
theorem zm_isWay (hW : W ≤ 1000) : zm_in x 0 (nI W - 1) = decide (¬ x < 0 ∧ x < nI W) := by
  unfold zm_in
  by_cases h : x < 0
  · simp [h]
  · obtain ⟨j, hj, rfl⟩ := nI_of h
    have e : (nI W - 1).toInt = (W : Int) - 1 := by
      have := pk_sub_toInt (a := W) (b := 1) (by omega) (by omega)
      exact this
    have e2 : (nI W - 1 < nI j) = ((W : Int) - 1 < j) := by rw [Int32.lt_iff_toInt_lt, e, nI_toInt (by omega)]
    have e3 : (nI j < nI W) = (j < W) := zb_lt (by omega) (by omega)
    simp only [h, not_false_eq_true, true_and, e2, e3]
    congr 1
    apply propext
    omega
theorem k_M_isWay (hp : hi 60 10 = nI W) (hW : W ≤ 7) : zq_P (d + 1) 139 0 [.ref 60, .int x] [] (zq_SG N, hi, hl, zq_HR ca cb cs) Q = Q (some (.int (zb_i (decide (¬ x < 0 ∧ x < nI W))))) (zq_SG N, hi, hl, zq_HR ca cb cs) := by
  simp only [zr139_0, zr139_1, zr139_2, zr139_3, zr139_6, zr139_7, zr139_8, zr139_11, zs_m0 N, zs_m1 N, zs_m2 N, zh_m0 ca cb cs, zq_kill_int, zq_kill_ref, zq_kill_ret, zq_kill_null, zq_kill_long, zq_rf_some, zq_rf_none, true_and, and_true, true_implies, not_true_eq_false, not_false_eq_true, false_implies, Bool.true_eq_false, Bool.false_eq_true, nI_1, zb_i0, zb_i1, zb_i2, Option.toList_some, Option.toList_none, List.cons_append, List.nil_append, true_or, or_true, implies_true, k_M_in, hp, zm_isWay (show W ≤ 1000 by omega)]
def wf (hi : zq_I) (W P j w : Nat) : Int32 := match j with
  | 0 => hi 69 w
  | 1 => zm_tr hi w
  | 2 => zm_needs hi w
  | 3 => hi 74 w
  | 4 => hi 75 w
  | _ => zb_i (zm_can hi W (zb_set (zm_away hi (hi 60 25)) P) w)
theorem k_M_wayOf {j w : Nat} (hct : sm_ct hi ca W P) (hw : w < W) (hj : j < 6) : zq_P (d + 4) 161 0 [.ref 60, .int (nI w), .int (nI j)] [] (zq_SG N, hi, hl, zq_HR ca cb cs) Q = Q (some (.int (wf hi W P j w))) (zq_SG N, hi, hl, zq_HR ca cb cs) := by
  obtain ⟨⟨w1, w2, w3, w4, w5, w6, -⟩, -⟩ := id hct
  have h1 : zq_xS (nI w) 7 := zb_x (by omega) (by omega)
  have h2 : (nI w).toNatClampNeg = w := zb_cl (by omega)
  have hw7 : w < 7 := by omega
  match j, hj with
  | 0, _ =>
    show zq_P (d + 4) 161 0 [.ref 60, .int (nI w), .int 0] [] (zq_SG N, hi, hl, zq_HR ca cb cs) Q = _
    simp only [zr161_0, zr161_36, zr161_37, zr161_40, zr161_41, zr161_42, zr161_43, zr161_44, zr161_45, zr161_48, zr161_49, zr161_50, zr161_51, zr161_54, zr161_55, zr161_56, zr161_59, zr161_60, zr161_61, zr161_62, zr161_63, zr161_66, zr161_67, zr161_68, zr161_69, zr161_70, zr161_71, zr161_74, zr161_77, zr161_78, zr161_81, zr161_82, zr161_1_s0, zr161_1_s1, zr161_1_s2, zr161_1_s3, zr161_1_s4, zs_m0 N, zs_m1 N, zs_m2 N, zh_m0 ca cb cs, zq_kill_int, zq_kill_ref, zq_kill_ret, zq_kill_null, zq_kill_long, zq_rf_some, zq_rf_none, true_and, and_true, true_implies, not_true_eq_false, not_false_eq_true, false_implies, Bool.true_eq_false, Bool.false_eq_true, nI_1, zb_i0, zb_i1, zb_i2, Option.toList_some, Option.toList_none, List.cons_append, List.nil_append, true_or, or_true, implies_true, h1, h2, wf]
  | 1, _ =>
    show zq_P (d + 4) 161 0 [.ref 60, .int (nI w), .int 1] [] (zq_SG N, hi, hl, zq_HR ca cb cs) Q = _
    simp only [zr161_0, zr161_36, zr161_37, zr161_40, zr161_41, zr161_42, zr161_43, zr161_44, zr161_45, zr161_48, zr161_49, zr161_50, zr161_51, zr161_54, zr161_55, zr161_56, zr161_59, zr161_60, zr161_61, zr161_62, zr161_63, zr161_66, zr161_67, zr161_68, zr161_69, zr161_70, zr161_71, zr161_74, zr161_77, zr161_78, zr161_81, zr161_82, zr161_1_s0, zr161_1_s1, zr161_1_s2, zr161_1_s3, zr161_1_s4, zs_m0 N, zs_m1 N, zs_m2 N, zh_m0 ca cb cs, zq_kill_int, zq_kill_ref, zq_kill_ret, zq_kill_null, zq_kill_long, zq_rf_some, zq_rf_none, true_and, and_true, true_implies, not_true_eq_false, not_false_eq_true, false_implies, Bool.true_eq_false, Bool.false_eq_true, nI_1, zb_i0, zb_i1, zb_i2, Option.toList_some, Option.toList_none, List.cons_append, List.nil_append, true_or, or_true, implies_true, h1, h2, wf, k_M_troubleOf hw7]
  | 2, _ =>
    show zq_P (d + 4) 161 0 [.ref 60, .int (nI w), .int 2] [] (zq_SG N, hi, hl, zq_HR ca cb cs) Q = _
    simp only [zr161_0, zr161_36, zr161_37, zr161_40, zr161_41, zr161_42, zr161_43, zr161_44, zr161_45, zr161_48, zr161_49, zr161_50, zr161_51, zr161_54, zr161_55, zr161_56, zr161_59, zr161_60, zr161_61, zr161_62, zr161_63, zr161_66, zr161_67, zr161_68, zr161_69, zr161_70, zr161_71, zr161_74, zr161_77, zr161_78, zr161_81, zr161_82, zr161_1_s0, zr161_1_s1, zr161_1_s2, zr161_1_s3, zr161_1_s4, zs_m0 N, zs_m1 N, zs_m2 N, zh_m0 ca cb cs, zq_kill_int, zq_kill_ref, zq_kill_ret, zq_kill_null, zq_kill_long, zq_rf_some, zq_rf_none, true_and, and_true, true_implies, not_true_eq_false, not_false_eq_true, false_implies, Bool.true_eq_false, Bool.false_eq_true, nI_1, zb_i0, zb_i1, zb_i2, Option.toList_some, Option.toList_none, List.cons_append, List.nil_append, true_or, or_true, implies_true, h1, h2, wf, k_M_needs hw7]
  | 3, _ =>
    show zq_P (d + 4) 161 0 [.ref 60, .int (nI w), .int 3] [] (zq_SG N, hi, hl, zq_HR ca cb cs) Q = _
    simp only [zr161_0, zr161_36, zr161_37, zr161_40, zr161_41, zr161_42, zr161_43, zr161_44, zr161_45, zr161_48, zr161_49, zr161_50, zr161_51, zr161_54, zr161_55, zr161_56, zr161_59, zr161_60, zr161_61, zr161_62, zr161_63, zr161_66, zr161_67, zr161_68, zr161_69, zr161_70, zr161_71, zr161_74, zr161_77, zr161_78, zr161_81, zr161_82, zr161_1_s0, zr161_1_s1, zr161_1_s2, zr161_1_s3, zr161_1_s4, zs_m0 N, zs_m1 N, zs_m2 N, zh_m0 ca cb cs, zq_kill_int, zq_kill_ref, zq_kill_ret, zq_kill_null, zq_kill_long, zq_rf_some, zq_rf_none, true_and, and_true, true_implies, not_true_eq_false, not_false_eq_true, false_implies, Bool.true_eq_false, Bool.false_eq_true, nI_1, zb_i0, zb_i1, zb_i2, Option.toList_some, Option.toList_none, List.cons_append, List.nil_append, true_or, or_true, implies_true, h1, h2, wf]
  | 4, _ =>
    show zq_P (d + 4) 161 0 [.ref 60, .int (nI w), .int 4] [] (zq_SG N, hi, hl, zq_HR ca cb cs) Q = _
    simp only [zr161_0, zr161_36, zr161_37, zr161_40, zr161_41, zr161_42, zr161_43, zr161_44, zr161_45, zr161_48, zr161_49, zr161_50, zr161_51, zr161_54, zr161_55, zr161_56, zr161_59, zr161_60, zr161_61, zr161_62, zr161_63, zr161_66, zr161_67, zr161_68, zr161_69, zr161_70, zr161_71, zr161_74, zr161_77, zr161_78, zr161_81, zr161_82, zr161_1_s0, zr161_1_s1, zr161_1_s2, zr161_1_s3, zr161_1_s4, zs_m0 N, zs_m1 N, zs_m2 N, zh_m0 ca cb cs, zq_kill_int, zq_kill_ref, zq_kill_ret, zq_kill_null, zq_kill_long, zq_rf_some, zq_rf_none, true_and, and_true, true_implies, not_true_eq_false, not_false_eq_true, false_implies, Bool.true_eq_false, Bool.false_eq_true, nI_1, zb_i0, zb_i1, zb_i2, Option.toList_some, Option.toList_none, List.cons_append, List.nil_append, true_or, or_true, implies_true, h1, h2, wf]
  | 5, _ =>
    show zq_P (d + 4) 161 0 [.ref 60, .int (nI w), .int 5] [] (zq_SG N, hi, hl, zq_HR ca cb cs) Q = _
    simp only [zr161_0, zr161_36, zr161_37, zr161_40, zr161_41, zr161_42, zr161_43, zr161_44, zr161_45, zr161_48, zr161_49, zr161_50, zr161_51, zr161_54, zr161_55, zr161_56, zr161_59, zr161_60, zr161_61, zr161_62, zr161_63, zr161_66, zr161_67, zr161_68, zr161_69, zr161_70, zr161_71, zr161_74, zr161_77, zr161_78, zr161_81, zr161_82, zr161_1_s0, zr161_1_s1, zr161_1_s2, zr161_1_s3, zr161_1_s4, zd161_1 (x := 5) (Or.inr (by decide)), zs_m0 N, zs_m1 N, zs_m2 N, zh_m0 ca cb cs, zq_kill_int, zq_kill_ref, zq_kill_ret, zq_kill_null, zq_kill_long, zq_rf_some, zq_rf_none, true_and, and_true, true_implies, not_true_eq_false, not_false_eq_true, false_implies, Bool.true_eq_false, Bool.false_eq_true, nI_1, zb_i0, zb_i1, zb_i2, Option.toList_some, Option.toList_none, List.cons_append, List.nil_append, true_or, or_true, implies_true, h1, h2, wf, k_M_canDo w4 w1 hw7 w6 w2 (sm_nz hct)]
    cases zm_can hi W (zb_set (zm_away hi (hi 60 25)) P) w <;> simp [zb_i]
theorem k_EF_openNow (h : Sim hi hl ca cb cs W P D) : zq_P (d + 4) 43 0 [.ref 0] [] (zq_SG N, hi, hl, zq_HR ca cb cs) Q = Q (some (.int (zb_set (zm_can hi W (zb_set (zm_away hi (hi 60 25)) P)) W))) (zq_SG N, hi, hl, zq_HR ca cb cs) := by
  have hc := zq_Ct_ok (N := N) (ca := ca) (cb := cb) (cs := cs) h.court
  have ho := zq_Co_ok (N := N) (ca := ca) (cb := cb) (cs := cs) (o := 32) (Or.inl rfl)
  have hct := h.2.2.2.2.2.1
  have hco := sm_dd_co hct.1.1 h.2.2.2.2.2.2
  obtain ⟨⟨w1, w2, w3, w4, w5, w6, -⟩, -⟩ := id hct
  have hd : hi 32 2 = hi 60 25 := by rw [hco.1.2.1, hco.1.2.2]
  have hc2 := hc
  unfold zq_Ct at hc2
  rw [← sm_opens hct hco, ← sm_aw hct, ← hd]
  simp only [zr43_0, zr43_1, zr43_4, zr43_5, zr43_8, zr43_9, zr43_12, zr43_13, zr43_16, zr43_19, zr43_22, zr43_25, zs_x0 N, zh_x0 ca cb cs, hc2, zq_kill_int, zq_kill_ref, zq_kill_ret, zq_kill_null, zq_kill_long, zq_rf_some, zq_rf_none, true_and, and_true, true_implies, not_true_eq_false, not_false_eq_true, false_implies, Bool.true_eq_false, Bool.false_eq_true, nI_1, zb_i0, zb_i1, zb_i2, Option.toList_some, Option.toList_none, List.cons_append, List.nil_append, true_or, or_true, implies_true, k_Court_awayOn hc w5 w2, k_Course_openWays hc ho w3 w1]
theorem k_EF_factOf {j w : Nat} (h : Sim hi hl ca cb cs W P D) (hw : w < W) (hj : j < 6) : zq_P (d + 5) 42 0 [.ref 0, .int (nI w), .int (nI j)] [] (zq_SG N, hi, hl, zq_HR ca cb cs) Q = Q (some (.int (wf hi W P j w))) (zq_SG N, hi, hl, zq_HR ca cb cs) := by
  have hc := zq_Ct_ok (N := N) (ca := ca) (cb := cb) (cs := cs) h.court
  have ho := zq_Co_ok (N := N) (ca := ca) (cb := cb) (cs := cs) (o := 32) (Or.inl rfl)
  have hct := h.2.2.2.2.2.1
  have hco := sm_dd_co hct.1.1 h.2.2.2.2.2.2
  obtain ⟨⟨w1, w2, w3, w4, w5, w6, -⟩, -, wa⟩ := id hct
  obtain ⟨b1, b2, b3, b4, b5, b6, -⟩ := wa w hw
  obtain ⟨e1, e2, -⟩ := hco.2.1 w hw
  have hc2 := hc
  unfold zq_Ct at hc2
  unfold zq_Co at ho
  have h1 : zq_xS (nI w) 7 := zb_x (by omega) (by omega)
  have h2 : (nI w).toNatClampNeg = w := zb_cl (by omega)
  match j, hj with
  | 0, _ =>
    show zq_P (d + 5) 42 0 [.ref 0, .int (nI w), .int 0] [] (zq_SG N, hi, hl, zq_HR ca cb cs) Q = _
    simp only [zr42_0, zr42_36, zr42_37, zr42_40, zr42_43, zr42_44, zr42_45, zr42_46, zr42_47, zr42_50, zr42_53, zr42_54, zr42_55, zr42_56, zr42_57, zr42_60, zr42_63, zr42_64, zr42_65, zr42_66, zr42_67, zr42_70, zr42_73, zr42_74, zr42_75, zr42_76, zr42_77, zr42_80, zr42_83, zr42_84, zr42_85, zr42_86, zr42_87, zr42_90, zr42_91, zr42_92, zr42_93, zr42_94, zr42_1_s0, zr42_1_s1, zr42_1_s2, zr42_1_s3, zr42_1_s4, zs_x0 N, zh_x0 ca cb cs, hc2, zq_kill_int, zq_kill_ref, zq_kill_ret, zq_kill_null, zq_kill_long, zq_rf_some, zq_rf_none, true_and, and_true, true_implies, not_true_eq_false, not_false_eq_true, false_implies, Bool.true_eq_false, Bool.false_eq_true, nI_1, zb_i0, zb_i1, zb_i2, Option.toList_some, Option.toList_none, List.cons_append, List.nil_append, true_or, or_true, implies_true, h1, h2, wf, b1]
  | 1, _ =>
    show zq_P (d + 5) 42 0 [.ref 0, .int (nI w), .int 1] [] (zq_SG N, hi, hl, zq_HR ca cb cs) Q = _
    simp only [zr42_0, zr42_36, zr42_37, zr42_40, zr42_43, zr42_44, zr42_45, zr42_46, zr42_47, zr42_50, zr42_53, zr42_54, zr42_55, zr42_56, zr42_57, zr42_60, zr42_63, zr42_64, zr42_65, zr42_66, zr42_67, zr42_70, zr42_73, zr42_74, zr42_75, zr42_76, zr42_77, zr42_80, zr42_83, zr42_84, zr42_85, zr42_86, zr42_87, zr42_90, zr42_91, zr42_92, zr42_93, zr42_94, zr42_1_s0, zr42_1_s1, zr42_1_s2, zr42_1_s3, zr42_1_s4, zs_x0 N, zh_x0 ca cb cs, hc2, zq_kill_int, zq_kill_ref, zq_kill_ret, zq_kill_null, zq_kill_long, zq_rf_some, zq_rf_none, true_and, and_true, true_implies, not_true_eq_false, not_false_eq_true, false_implies, Bool.true_eq_false, Bool.false_eq_true, nI_1, zb_i0, zb_i1, zb_i2, Option.toList_some, Option.toList_none, List.cons_append, List.nil_append, true_or, or_true, implies_true, h1, h2, wf, b4]
  | 2, _ =>
    show zq_P (d + 5) 42 0 [.ref 0, .int (nI w), .int 2] [] (zq_SG N, hi, hl, zq_HR ca cb cs) Q = _
    simp only [zr42_0, zr42_36, zr42_37, zr42_40, zr42_43, zr42_44, zr42_45, zr42_46, zr42_47, zr42_50, zr42_53, zr42_54, zr42_55, zr42_56, zr42_57, zr42_60, zr42_63, zr42_64, zr42_65, zr42_66, zr42_67, zr42_70, zr42_73, zr42_74, zr42_75, zr42_76, zr42_77, zr42_80, zr42_83, zr42_84, zr42_85, zr42_86, zr42_87, zr42_90, zr42_91, zr42_92, zr42_93, zr42_94, zr42_1_s0, zr42_1_s1, zr42_1_s2, zr42_1_s3, zr42_1_s4, zs_x0 N, zh_x0 ca cb cs, hc2, zq_kill_int, zq_kill_ref, zq_kill_ret, zq_kill_null, zq_kill_long, zq_rf_some, zq_rf_none, true_and, and_true, true_implies, not_true_eq_false, not_false_eq_true, false_implies, Bool.true_eq_false, Bool.false_eq_true, nI_1, zb_i0, zb_i1, zb_i2, Option.toList_some, Option.toList_none, List.cons_append, List.nil_append, true_or, or_true, implies_true, h1, h2, wf, b5]
  | 3, _ =>
    show zq_P (d + 5) 42 0 [.ref 0, .int (nI w), .int 3] [] (zq_SG N, hi, hl, zq_HR ca cb cs) Q = _
    simp only [zr42_0, zr42_36, zr42_37, zr42_40, zr42_43, zr42_44, zr42_45, zr42_46, zr42_47, zr42_50, zr42_53, zr42_54, zr42_55, zr42_56, zr42_57, zr42_60, zr42_63, zr42_64, zr42_65, zr42_66, zr42_67, zr42_70, zr42_73, zr42_74, zr42_75, zr42_76, zr42_77, zr42_80, zr42_83, zr42_84, zr42_85, zr42_86, zr42_87, zr42_90, zr42_91, zr42_92, zr42_93, zr42_94, zr42_1_s0, zr42_1_s1, zr42_1_s2, zr42_1_s3, zr42_1_s4, zs_x0 N, zh_x0 ca cb cs, zq_kill_int, zq_kill_ref, zq_kill_ret, zq_kill_null, zq_kill_long, zq_rf_some, zq_rf_none, true_and, and_true, true_implies, not_true_eq_false, not_false_eq_true, false_implies, Bool.true_eq_false, Bool.false_eq_true, nI_1, zb_i0, zb_i1, zb_i2, Option.toList_some, Option.toList_none, List.cons_append, List.nil_append, true_or, or_true, implies_true, h1, h2, wf]
    rw [show hi 33 w = hi 74 w from e1]
  | 4, _ =>
    show zq_P (d + 5) 42 0 [.ref 0, .int (nI w), .int 4] [] (zq_SG N, hi, hl, zq_HR ca cb cs) Q = _
    simp only [zr42_0, zr42_36, zr42_37, zr42_40, zr42_43, zr42_44, zr42_45, zr42_46, zr42_47, zr42_50, zr42_53, zr42_54, zr42_55, zr42_56, zr42_57, zr42_60, zr42_63, zr42_64, zr42_65, zr42_66, zr42_67, zr42_70, zr42_73, zr42_74, zr42_75, zr42_76, zr42_77, zr42_80, zr42_83, zr42_84, zr42_85, zr42_86, zr42_87, zr42_90, zr42_91, zr42_92, zr42_93, zr42_94, zr42_1_s0, zr42_1_s1, zr42_1_s2, zr42_1_s3, zr42_1_s4, zs_x0 N, zh_x0 ca cb cs, zq_kill_int, zq_kill_ref, zq_kill_ret, zq_kill_null, zq_kill_long, zq_rf_some, zq_rf_none, true_and, and_true, true_implies, not_true_eq_false, not_false_eq_true, false_implies, Bool.true_eq_false, Bool.false_eq_true, nI_1, zb_i0, zb_i1, zb_i2, Option.toList_some, Option.toList_none, List.cons_append, List.nil_append, true_or, or_true, implies_true, h1, h2, wf]
    rw [show hi 34 w = hi 75 w from e2]
  | 5, _ =>
    show zq_P (d + 5) 42 0 [.ref 0, .int (nI w), .int 5] [] (zq_SG N, hi, hl, zq_HR ca cb cs) Q = _
    simp only [zr42_0, zr42_36, zr42_37, zr42_40, zr42_43, zr42_44, zr42_45, zr42_46, zr42_47, zr42_50, zr42_53, zr42_54, zr42_55, zr42_56, zr42_57, zr42_60, zr42_63, zr42_64, zr42_65, zr42_66, zr42_67, zr42_70, zr42_73, zr42_74, zr42_75, zr42_76, zr42_77, zr42_80, zr42_83, zr42_84, zr42_85, zr42_86, zr42_87, zr42_90, zr42_91, zr42_92, zr42_93, zr42_94, zr42_1_s0, zr42_1_s1, zr42_1_s2, zr42_1_s3, zr42_1_s4, zd42_1 (x := 5) (Or.inr (by decide)), zs_x0 N, zh_x0 ca cb cs, zq_kill_int, zq_kill_ref, zq_kill_ret, zq_kill_null, zq_kill_long, zq_rf_some, zq_rf_none, true_and, and_true, true_implies, not_true_eq_false, not_false_eq_true, false_implies, Bool.true_eq_false, Bool.false_eq_true, nI_1, zb_i0, zb_i1, zb_i2, Option.toList_some, Option.toList_none, List.cons_append, List.nil_append, true_or, or_true, implies_true, h1, h2, wf, k_EF_openNow h, zb_bit w1 hw]
end Z27
section Z27f
variable {hi hi2 : zq_I} {hl : zq_J}
theorem zm_ah_fr (e : ∀ a, 60 ≤ a → hi2 a = hi a) : zm_ah hi2 = zm_ah hi := by
  funext r w
  unfold zm_ah
  rw [e 60 (by omega), e 69 (by omega), e 74 (by omega)]
theorem zm_away_fr (e : ∀ a, 60 ≤ a → hi2 a = hi a) : zm_away hi2 = zm_away hi := by
  funext x k
  unfold zm_away
  rw [e 67 (by omega), e 68 (by omega)]
theorem zm_can_fr (e : ∀ a, 60 ≤ a → hi2 a = hi a) : zm_can hi2 = zm_can hi := by
  funext W x w
  unfold zm_can zm_needs zm_rest
  rw [zm_ah_fr e, e 60 (by omega), e 69 (by omega), e 71 (by omega), e 74 (by omega)]
theorem wf_fr (e : ∀ a, 60 ≤ a → hi2 a = hi a) : wf hi2 = wf hi := by
  funext W P j w
  unfold wf zm_needs
  rw [zm_tr_fr (e 69 (by omega)) (e 70 (by omega)), zm_can_fr e, zm_away_fr e, e 60 (by omega), e 69 (by omega), e 71 (by omega), e 74 (by omega), e 75 (by omega)]
end Z27f
section Z27b
variable {N : Nat} {x z : Int32}
theorem zb_le5 {j : Nat} (h : j ≤ 5) : ¬ 5 < nI j := (nI_nlt (a := 5) (b := j) h (by omega))
theorem p_way : zq_pair N 40 160 [.ref 0, .int x, .int z] [.ref 60, .int x, .int z] := by
  intro hi hl ca cb cs W P D h
  have hc := zq_Ct_ok (N := N) (ca := ca) (cb := cb) (cs := cs) h.court
  have hct := h.2.2.2.2.2.1
  obtain ⟨⟨w1, w2, w3, w4, w5, w6, -⟩, -⟩ := id hct
  have hc2 := hc
  unfold zq_Ct at hc2
  have e56 : (z < 6) = ¬ 5 < z := by
    rw [Int32.lt_iff_toInt_lt, Int32.lt_iff_toInt_lt]
    show (z.toInt < 6) = ¬ (5 < z.toInt)
    apply propext; omega
  by_cases hx : ¬ x < 0 ∧ x < nI W
  · by_cases hz : ¬ z < 0 ∧ ¬ 5 < z
    · obtain ⟨w, hw, rfl⟩ := nI_of hx.1
      have hw2 : w < W := (nI_ltI (by omega) (by omega)).mp hx.2
      obtain ⟨j, hj, rfl⟩ := nI_of2 (x := z) (M := 5) (n := 5) (by decide) hz.1 (Int32.not_lt.mp hz.2)
      refine ⟨.int 1, zq_u hi 0 9 (wf hi W P j w), hl, ca, cb, cs, zq_u (zq_u hi 0 9 (wf hi W P j w)) 60 2 (wf hi W P j w), hl, W, P, D, fun Q => ?_, fun Q => ?_, h.ask _⟩
      · simp only [zr40_0, zr40_1, zr40_4, zr40_5, zr40_8, zr40_11, zr40_12, zr40_15, zr40_16, zr40_18, zr40_21, zr40_22, zr40_23, zr40_24, zr40_25, zr40_26, zr40_27, zr40_30, zr40_33, zr40_34, zs_x0 N, zh_x0 ca cb cs, hc2, zq_kill_int, zq_kill_ref, zq_kill_ret, zq_kill_null, zq_kill_long, zq_rf_some, zq_rf_none, true_and, and_true, true_implies, not_true_eq_false, not_false_eq_true, false_implies, Bool.true_eq_false, Bool.false_eq_true, nI_1, zb_i0, zb_i1, zb_i2, Option.toList_some, Option.toList_none, List.cons_append, List.nil_append, true_or, or_true, implies_true, k_Court_hasWay hc, zc_has, w3, hx, hz, e56, k_EF_factOf h hw2 (show j < 6 by omega), and_self, decide_true]
      · have hct2 : sm_ct (zq_u hi 0 9 (wf hi W P j w)) ca W P := sm_ct_fr hct (fun a ha => zq_u_ne (by have := h.court; omega)) (by simp [zq_u])
        have ew : wf (zq_u hi 0 9 (wf hi W P j w)) = wf hi := wf_fr fun a ha => zq_u_ne (by omega)
        simp only [zr160_0, zr160_1, zr160_2, zr160_5, zr160_8, zr160_9, zr160_10, zr160_11, zr160_14, zr160_17, zr160_18, zr160_19, zr160_20, zr160_21, zr160_24, zr160_25, zr160_28, zr160_31, zr160_32, zs_m0 N, zs_m1 N, zs_m2 N, zh_m0 ca cb cs, zq_kill_int, zq_kill_ref, zq_kill_ret, zq_kill_null, zq_kill_long, zq_rf_some, zq_rf_none, true_and, and_true, true_implies, not_true_eq_false, not_false_eq_true, false_implies, Bool.true_eq_false, Bool.false_eq_true, nI_1, zb_i0, zb_i1, zb_i2, Option.toList_some, Option.toList_none, List.cons_append, List.nil_append, true_or, or_true, implies_true, k_M_isWay hct2.1.2.2.2.1 w1, k_M_in, zm_in, hx, hz, k_M_wayOf hct2 hw2 (show j < 6 by omega), ew, zr118_0, zr118_1, zr118_2, zr118_5, zr118_6, and_self, decide_true]
    · refine ⟨.int (-1), hi, hl, ca, cb, cs, hi, hl, W, P, D, fun Q => ?_, fun Q => ?_, h⟩
      · simp only [zr40_0, zr40_1, zr40_4, zr40_5, zr40_8, zr40_11, zr40_12, zr40_15, zr40_16, zr40_18, zr40_21, zr40_22, zr40_23, zr40_24, zr40_25, zr40_26, zr40_27, zr40_30, zr40_33, zr40_34, zs_x0 N, zh_x0 ca cb cs, hc2, zq_kill_int, zq_kill_ref, zq_kill_ret, zq_kill_null, zq_kill_long, zq_rf_some, zq_rf_none, true_and, and_true, true_implies, not_true_eq_false, not_false_eq_true, false_implies, Bool.true_eq_false, Bool.false_eq_true, nI_1, zb_i0, zb_i1, zb_i2, Option.toList_some, Option.toList_none, List.cons_append, List.nil_append, true_or, or_true, implies_true, k_Court_hasWay hc, zc_has, w3, hx, e56, and_self, decide_true]
        by_cases q1 : z < 0
        · simp [q1]
        · by_cases q2 : 5 < z
          · simp [q1, q2]
          · exact absurd ⟨q1, q2⟩ hz
      · simp only [zr160_0, zr160_1, zr160_2, zr160_5, zr160_8, zr160_9, zr160_10, zr160_11, zr160_14, zr160_17, zr160_18, zr160_19, zr160_20, zr160_21, zr160_24, zr160_25, zr160_28, zr160_31, zr160_32, zs_m0 N, zs_m1 N, zs_m2 N, zh_m0 ca cb cs, zq_kill_int, zq_kill_ref, zq_kill_ret, zq_kill_null, zq_kill_long, zq_rf_some, zq_rf_none, true_and, and_true, true_implies, not_true_eq_false, not_false_eq_true, false_implies, Bool.true_eq_false, Bool.false_eq_true, nI_1, zb_i0, zb_i1, zb_i2, Option.toList_some, Option.toList_none, List.cons_append, List.nil_append, true_or, or_true, implies_true, k_M_isWay w4 w1, k_M_in, zm_in, hx, hz, and_self, decide_true, decide_false]
  · refine ⟨.int (-1), hi, hl, ca, cb, cs, hi, hl, W, P, D, fun Q => ?_, fun Q => ?_, h⟩
    · simp only [zr40_0, zr40_1, zr40_4, zr40_5, zr40_8, zr40_11, zr40_12, zr40_15, zr40_16, zr40_18, zr40_21, zr40_22, zr40_23, zr40_24, zr40_25, zr40_26, zr40_27, zr40_30, zr40_33, zr40_34, zs_x0 N, zh_x0 ca cb cs, hc2, zq_kill_int, zq_kill_ref, zq_kill_ret, zq_kill_null, zq_kill_long, zq_rf_some, zq_rf_none, true_and, and_true, true_implies, not_true_eq_false, not_false_eq_true, false_implies, Bool.true_eq_false, Bool.false_eq_true, nI_1, zb_i0, zb_i1, zb_i2, Option.toList_some, Option.toList_none, List.cons_append, List.nil_append, true_or, or_true, implies_true, k_Court_hasWay hc, zc_has, w3, hx, decide_false]
    · simp only [zr160_0, zr160_1, zr160_2, zr160_5, zr160_8, zr160_9, zr160_10, zr160_11, zr160_14, zr160_17, zr160_18, zr160_19, zr160_20, zr160_21, zr160_24, zr160_25, zr160_28, zr160_31, zr160_32, zs_m0 N, zs_m1 N, zs_m2 N, zh_m0 ca cb cs, zq_kill_int, zq_kill_ref, zq_kill_ret, zq_kill_null, zq_kill_long, zq_rf_some, zq_rf_none, true_and, and_true, true_implies, not_true_eq_false, not_false_eq_true, false_implies, Bool.true_eq_false, Bool.false_eq_true, nI_1, zb_i0, zb_i1, zb_i2, Option.toList_some, Option.toList_none, List.cons_append, List.nil_append, true_or, or_true, implies_true, k_M_isWay w4 w1, hx, decide_false]
end Z27b
