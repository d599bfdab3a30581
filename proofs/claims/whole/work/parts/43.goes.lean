/-! goes, lasts -/
/-- how many days of a row go -/
def gn (W P : Nat) (ws : Nat → Nat) (M : zq_I) (k : Nat) : Nat → Nat
  | 0 => k
  | m + 1 => if cano M W P (ws k) = true then gn W P ws (zm_go M (ws k)) (k + 1) m else k
section Z43
variable {N ca cb cs d W P D n w o : Nat} {hi C M : zq_I} {hl : zq_J} {Q : Option Value → zq_G → Prop} {x : Int32}
/-- after the search: class and reference as before -/
theorem Sim.search {C2 M2 : zq_I} {hl2 : zq_J} (h : Sim hi hl ca cb cs W P D) (h1 : ∀ a, a < 54 ∨ 59 < a → a ≠ 0 → C2 a = hi a) (h0 : C2 0 12 = hi 0 12) (ha : C2 0 9 = M2 60 2) (h2 : ∀ a, a < 60 → M2 a = C2 a) (h3 : ∀ a, 60 < a → a < 79 → M2 a = C2 a) (h4 : ∀ f, f ≠ 2 → f < 31 → M2 60 f = C2 60 f) (t2 : hl2 0 10 = hl2 60 3) (t3 : hl2 0 11 = hl2 60 4) : Sim M2 hl2 ca cb ca W P D := by
  have hca := h.court
  have k1 : ∀ a, a < 54 → a ≠ 0 → M2 a = hi a := fun a a1 a2 => by rw [h2 a (by omega), h1 a (by omega) a2]
  have k2 : ∀ a, 60 < a → a < 79 → M2 a = hi a := fun a a1 a2 => by rw [h3 a a1 a2, h1 a (by omega) (by omega)]
  have k3 : ∀ f, f ≠ 2 → f < 31 → M2 60 f = hi 60 f := fun f f1 f2 => by rw [h4 f f1 f2, h1 60 (by omega) (by omega)]
  refine h.fr2 hca (fun a ha => ?_) ⟨k3 _ (by omega) (by omega), k3 _ (by omega) (by omega), k3 _ (by omega) (by omega)⟩ ⟨k3 _ (by omega) (by omega), k3 _ (by omega) (by omega), k3 _ (by omega) (by omega), k3 _ (by omega) (by omega)⟩ ?_ ?_ ?_
  · unfold keepc at ha
    rcases Nat.lt_or_ge a 54 with q | q
    · exact k1 a q (by omega)
    · exact k2 a (by omega) (by omega)
  · obtain ⟨t1, -, -, t4, t5⟩ := h.2.2.1
    refine ⟨?_, t2, t3, ?_, fun f hf => ?_⟩
    · rw [h2 0 (by omega)]; exact ha
    · rw [h2 0 (by omega), h0, k3 0 (by omega) (by omega)]; exact t4
    · rw [k1 35 (by omega) (by omega), k2 61 (by omega) (by omega)]; exact t5 f hf
  · exact sm_st_fr h.2.2.2.1 (fun r hr => ⟨by rw [k1 _ (by omega) (by omega)], k1 _ (by omega) (by omega)⟩) (k2 _ (by omega) (by omega)) (k2 _ (by omega) (by omega))
  · exact sm_st_fr h.2.2.2.2.1 (fun r hr => ⟨by rw [k1 _ (by omega) (by omega)], k1 _ (by omega) (by omega)⟩) (k2 _ (by omega) (by omega)) (k2 _ (by omega) (by omega))
theorem k_EF_goes_loop {j : Nat} {ws : Nat → Nat} (hca : ca = 36 ∨ ca = 45) (hj : j < 6) (hn : n ≤ 12) (hws : ∀ k, k < n → ws k < W) : ∀ m k, k + m = n → ∀ D C M, D + m ≤ 200 → Cor ca W P D C M → C (2 + 2 * j) 1 = nI n → (∀ k, k < n → C (2 + 1 + 2 * j) k = nI (ws k)) →
    ∃ C2, cfr C C2 ∧ ∀ Q, zq_P (d + 5) 76 112 [.ref 0, .int x, .ref (2 + 2 * j), .int (nI k)] [] (zq_SG N, C, hl, zq_HR ca cb ca) Q = Q (some (.int (nI (gn W P ws M k m)))) (zq_SG N, C2, hl, zq_HR ca cb ca) := by
  have hs := zq_Ss_rows (N := N) (ca := ca) (cb := cb) (cs := ca)
  have hsp := (hs.2 j hj).2
  unfold zq_Sp at hsp
  have hc := zq_Ct_ok (N := N) (ca := ca) (cb := cb) (cs := ca) hca
  have ho := zq_Co_ok (N := N) (ca := ca) (cb := cb) (cs := ca) (o := 55) (Or.inr rfl)
  intro m
  induction m with
  | zero =>
    intro k hk D C M hD hcor hsz hpl
    have h3 : (nI k < nI n) = False := eq_false (nI_nlt (by omega) (by omega))
    refine ⟨C, cfr_rfl C, fun Q => ?_⟩
    rw [zr76_112]
    simp only [zr76_0, zr76_1, zr76_4, zr76_5, zr76_8, zr76_8n, zr76_9, zr76_9n, zr76_10, zr76_10n, zr76_13, zr76_14, zr76_15, zr76_16, zr76_19, zr76_22, zr76_25, zr76_27, zr76_28, zr76_28n, zr76_29, zr76_32, zr76_35, zr76_36, zr76_37, zr76_40, zr76_41, zr76_41n, zr76_42, zr76_45, zr76_47, zr76_50, zr76_51, zr76_52, zr76_55, zr76_56, zr76_57, zr76_59, zr76_59n, zr76_60, zr76_63, zr76_66, zr76_67, zr76_70, zr76_70n, zr76_71, zr76_74, zr76_75, zr76_76, zr76_79, zr76_82, zr76_83, zr76_84, zr76_87, zr76_88, zr76_91, zr76_94, zr76_95, zr76_98, zr76_99, zr76_102, zr76_103, zr76_106, zr76_107, zr76_110, zr76_111, zr76_113, zr76_113n, zr76_114, zr76_117, zr76_120, zr76_121, zr76_124, zr76_127, zr76_127n, zr76_128, zr76_131, zr76_132, zr76_133, zr76_134, zr76_135, zr76_136, zr76_139, zr76_140, zr76_143, zr76_146, zr76_147, zr76_150, zr76_150n, zr76_151, zr76_154, zr76_155, zr76_156, zr76_159, zr76_162, zr76_165, zr76_166, hsp, zq_kill_int, zq_kill_ref, zq_kill_ret, zq_kill_null, zq_kill_long, zq_rf_some, zq_rf_none, true_and, and_true, true_implies, not_true_eq_false, not_false_eq_true, false_implies, Bool.true_eq_false, Bool.false_eq_true, nI_1, zb_i0, zb_i1, zb_i2, Option.toList_some, Option.toList_none, List.cons_append, List.nil_append, true_or, or_true, implies_true, zb_it, zb_if, zb_10, zb_00, zb_n5, zb_n2, zb_m1, zb_m3, zb_m9, or_true, true_or, or_false, false_or, hsz, h3, gn]
  | succ m ih =>
    intro k hk D C M hD hcor hsz hpl
    have h3 : (nI k < nI n) = True := eq_true ((nI_ltI (by omega) (by omega)).mpr (by omega))
    have x1 : zq_xS (nI k) 40 := zb_x (by omega) (by omega)
    have x2 : (nI k).toNatClampNeg = k := zb_cl (by omega)
    obtain ⟨⟨w1, w2, w3, w4, w5, w6⟩, -, wa⟩ := hcor.facts hca
    have hw := hws k (by omega)
    have hpk := hpl k (by omega)
    cases hb : cano M W P (ws k) with
    | false =>
      refine ⟨C, cfr_rfl C, fun Q => ?_⟩
      rw [zr76_112]
      simp only [zr76_0, zr76_1, zr76_4, zr76_5, zr76_8, zr76_8n, zr76_9, zr76_9n, zr76_10, zr76_10n, zr76_13, zr76_14, zr76_15, zr76_16, zr76_19, zr76_22, zr76_25, zr76_27, zr76_28, zr76_28n, zr76_29, zr76_32, zr76_35, zr76_36, zr76_37, zr76_40, zr76_41, zr76_41n, zr76_42, zr76_45, zr76_47, zr76_50, zr76_51, zr76_52, zr76_55, zr76_56, zr76_57, zr76_59, zr76_59n, zr76_60, zr76_63, zr76_66, zr76_67, zr76_70, zr76_70n, zr76_71, zr76_74, zr76_75, zr76_76, zr76_79, zr76_82, zr76_83, zr76_84, zr76_87, zr76_88, zr76_91, zr76_94, zr76_95, zr76_98, zr76_99, zr76_102, zr76_103, zr76_106, zr76_107, zr76_110, zr76_111, zr76_113, zr76_113n, zr76_114, zr76_117, zr76_120, zr76_121, zr76_124, zr76_127, zr76_127n, zr76_128, zr76_131, zr76_132, zr76_133, zr76_134, zr76_135, zr76_136, zr76_139, zr76_140, zr76_143, zr76_146, zr76_147, zr76_150, zr76_150n, zr76_151, zr76_154, zr76_155, zr76_156, zr76_159, zr76_162, zr76_165, zr76_166, zs_x0 N, zs_q0 N, zh_q0 ca cb ca, zh_x0 ca cb ca, hsp, zq_kill_int, zq_kill_ref, zq_kill_ret, zq_kill_null, zq_kill_long, zq_rf_some, zq_rf_none, true_and, and_true, true_implies, not_true_eq_false, not_false_eq_true, false_implies, Bool.true_eq_false, Bool.false_eq_true, nI_1, zb_i0, zb_i1, zb_i2, Option.toList_some, Option.toList_none, List.cons_append, List.nil_append, true_or, or_true, implies_true, zb_it, zb_if, zb_10, zb_00, zb_n5, zb_n2, zb_m1, zb_m3, zb_m9, or_true, true_or, or_false, false_or, hsz, h3, k_Search_open hca hcor, x1, x2, hpk, zb_bit w1 hw, hb, gn]
      simp
    | true =>
      have hcor2 := hcor.go hca hw (by omega)
      have f := @cfr_go ca (ws k) C
      obtain ⟨C2, q1, q2⟩ := ih (k + 1) (by omega) (D + 1) _ _ (by omega) hcor2 (by rw [f _ (by omega)]; exact hsz) (fun i hi' => by rw [f _ (by omega)]; exact hpl i hi')
      refine ⟨C2, cfr_tr f q1, fun Q => ?_⟩
      rw [zr76_112]
      simp only [zr76_0, zr76_1, zr76_4, zr76_5, zr76_8, zr76_8n, zr76_9, zr76_9n, zr76_10, zr76_10n, zr76_13, zr76_14, zr76_15, zr76_16, zr76_19, zr76_22, zr76_25, zr76_27, zr76_28, zr76_28n, zr76_29, zr76_32, zr76_35, zr76_36, zr76_37, zr76_40, zr76_41, zr76_41n, zr76_42, zr76_45, zr76_47, zr76_50, zr76_51, zr76_52, zr76_55, zr76_56, zr76_57, zr76_59, zr76_59n, zr76_60, zr76_63, zr76_66, zr76_67, zr76_70, zr76_70n, zr76_71, zr76_74, zr76_75, zr76_76, zr76_79, zr76_82, zr76_83, zr76_84, zr76_87, zr76_88, zr76_91, zr76_94, zr76_95, zr76_98, zr76_99, zr76_102, zr76_103, zr76_106, zr76_107, zr76_110, zr76_111, zr76_113, zr76_113n, zr76_114, zr76_117, zr76_120, zr76_121, zr76_124, zr76_127, zr76_127n, zr76_128, zr76_131, zr76_132, zr76_133, zr76_134, zr76_135, zr76_136, zr76_139, zr76_140, zr76_143, zr76_146, zr76_147, zr76_150, zr76_150n, zr76_151, zr76_154, zr76_155, zr76_156, zr76_159, zr76_162, zr76_165, zr76_166, zs_x0 N, zs_q0 N, zh_q0 ca cb ca, zh_x0 ca cb ca, hc.1, hsp, zq_kill_int, zq_kill_ref, zq_kill_ret, zq_kill_null, zq_kill_long, zq_rf_some, zq_rf_none, true_and, and_true, true_implies, not_true_eq_false, not_false_eq_true, false_implies, Bool.true_eq_false, Bool.false_eq_true, nI_1, zb_i0, zb_i1, zb_i2, Option.toList_some, Option.toList_none, List.cons_append, List.nil_append, true_or, or_true, implies_true, zb_it, zb_if, zb_10, zb_00, zb_n5, zb_n2, zb_m1, zb_m3, zb_m9, or_true, true_or, or_false, false_or, hsz, h3, k_Search_open hca hcor, x1, x2, hpk, zb_bit w1 hw, hb, k_Course_goOn hc ho (by omega) w3 w1 hw, q2, gn, if_true]
theorem k_M_goes_loop {j : Nat} {ws : Nat → Nat} (hca : ca = 36 ∨ ca = 45) (hj : j < 6) (hn : n ≤ 12) (hws : ∀ k, k < n → ws k < W) : ∀ m k, k + m = n → ∀ D C M, D + m ≤ 200 → Cor ca W P D C M → M 62 j = nI n → (∀ k, k < n → M 63 (40 * j + k) = nI (ws k)) →
    ∃ M2, mfr M M2 ∧ ∀ Q, zq_P (d + 5) 179 94 [.ref 60, .int (nI j), .int (nI k)] [] (zq_SG N, M, hl, zq_HR ca cb cs) Q = zq_P (d + 5) 179 133 [.ref 60, .int (nI j), .int (nI (gn W P ws M k m))] [] (zq_SG N, M2, hl, zq_HR ca cb cs) Q := by
  have h1 : zq_xS (nI j) 6 := zb_x (by omega) (by omega)
  have h2 : (nI j).toNatClampNeg = j := zb_cl (by omega)
  intro m
  induction m with
  | zero =>
    intro k hk D C M hD hcor hsz hpl
    have h3 : (nI k < nI n) = False := eq_false (nI_nlt (by omega) (by omega))
    refine ⟨M, mfr_rfl M, fun Q => ?_⟩
    rw [zr179_94]
    simp only [zr179_0, zr179_1, zr179_4, zr179_7, zr179_8, zr179_9, zr179_10, zr179_13, zr179_16, zr179_18, zr179_19, zr179_20, zr179_23, zr179_24, zr179_25, zr179_28, zr179_29, zr179_30, zr179_33, zr179_34, zr179_35, zr179_38, zr179_39, zr179_40, zr179_42, zr179_45, zr179_46, zr179_47, zr179_50, zr179_51, zr179_52, zr179_54, zr179_55, zr179_58, zr179_59, zr179_60, zr179_63, zr179_64, zr179_65, zr179_66, zr179_67, zr179_70, zr179_73, zr179_76, zr179_77, zr179_78, zr179_81, zr179_82, zr179_85, zr179_88, zr179_89, zr179_92, zr179_93, zr179_95, zr179_96, zr179_99, zr179_100, zr179_101, zr179_104, zr179_105, zr179_106, zr179_107, zr179_108, zr179_111, zr179_114, zr179_117, zr179_118, zr179_119, zr179_120, zr179_121, zr179_124, zr179_127, zr179_130, zr179_134, zr179_137, zr179_138, zs_m0 N, zs_m1 N, zs_m2 N, zh_m0 ca cb cs, zq_kill_int, zq_kill_ref, zq_kill_ret, zq_kill_null, zq_kill_long, zq_rf_some, zq_rf_none, true_and, and_true, true_implies, not_true_eq_false, not_false_eq_true, false_implies, Bool.true_eq_false, Bool.false_eq_true, nI_1, zb_i0, zb_i1, zb_i2, Option.toList_some, Option.toList_none, List.cons_append, List.nil_append, true_or, or_true, implies_true, zb_it, zb_if, zb_10, zb_00, zb_n5, zb_n2, zb_m1, zb_m3, zb_m9, or_true, true_or, or_false, false_or, h1, h2, hsz, h3, gn]
  | succ m ih =>
    intro k hk D C M hD hcor hsz hpl
    have h3 : (nI k < nI n) = True := eq_true ((nI_ltI (by omega) (by omega)).mpr (by omega))
    have x3 : zq_xS (nI (40 * j + k)) 240 := zb_x (by omega) (by omega)
    have x4 : (nI (40 * j + k)).toNatClampNeg = 40 * j + k := zb_cl (by omega)
    obtain ⟨⟨w1, w2, w3, w4, w5, w6⟩, cz, wa⟩ := hcor.facts hca
    have hw := hws k (by omega)
    have hw7 : ws k < 7 := by omega
    have hpk := hpl k (by omega)
    have hcan : zm_can M W (zb_set (zm_away M (M 60 25)) P) (ws k) = cano M W P (ws k) := rfl
    cases hb : cano M W P (ws k) with
    | false =>
      refine ⟨M, mfr_rfl M, fun Q => ?_⟩
      rw [zr179_94]
      simp only [zr179_0, zr179_1, zr179_4, zr179_7, zr179_8, zr179_9, zr179_10, zr179_13, zr179_16, zr179_18, zr179_19, zr179_20, zr179_23, zr179_24, zr179_25, zr179_28, zr179_29, zr179_30, zr179_33, zr179_34, zr179_35, zr179_38, zr179_39, zr179_40, zr179_42, zr179_45, zr179_46, zr179_47, zr179_50, zr179_51, zr179_52, zr179_54, zr179_55, zr179_58, zr179_59, zr179_60, zr179_63, zr179_64, zr179_65, zr179_66, zr179_67, zr179_70, zr179_73, zr179_76, zr179_77, zr179_78, zr179_81, zr179_82, zr179_85, zr179_88, zr179_89, zr179_92, zr179_93, zr179_95, zr179_96, zr179_99, zr179_100, zr179_101, zr179_104, zr179_105, zr179_106, zr179_107, zr179_108, zr179_111, zr179_114, zr179_117, zr179_118, zr179_119, zr179_120, zr179_121, zr179_124, zr179_127, zr179_130, zr179_134, zr179_137, zr179_138, zr117_0, zr117_1, zr117_4, zr117_6, zr117_7, zr117_8, zr117_9, zr117_10, zr117_11, zs_m0 N, zs_m1 N, zs_m2 N, zh_m0 ca cb cs, zq_kill_int, zq_kill_ref, zq_kill_ret, zq_kill_null, zq_kill_long, zq_rf_some, zq_rf_none, true_and, and_true, true_implies, not_true_eq_false, not_false_eq_true, false_implies, Bool.true_eq_false, Bool.false_eq_true, nI_1, zb_i0, zb_i1, zb_i2, Option.toList_some, Option.toList_none, List.cons_append, List.nil_append, true_or, or_true, implies_true, zb_it, zb_if, zb_10, zb_00, zb_n5, zb_n2, zb_m1, zb_m3, zb_m9, or_true, true_or, or_false, false_or, h1, h2, hsz, h3, zb_m40, nI_add, x3, x4, hpk, k_M_canDo w4 w1 hw7 w6 w2 cz, hcan, hb, gn]
      simp
    | true =>
      have hcor2 := hcor.go hca hw (by omega)
      have f := mfr_go (M := M) hw7
      obtain ⟨M2, q1, q2⟩ := ih (k + 1) (by omega) (D + 1) _ _ (by omega) hcor2 (by rw [f.1 _ (by omega) (by omega) (by omega)]; exact hsz) (fun i hi' => by rw [f.1 _ (by omega) (by omega) (by omega)]; exact hpl i hi')
      refine ⟨M2, mfr_tr f q1, fun Q => ?_⟩
      rw [zr179_94]
      simp only [zr179_0, zr179_1, zr179_4, zr179_7, zr179_8, zr179_9, zr179_10, zr179_13, zr179_16, zr179_18, zr179_19, zr179_20, zr179_23, zr179_24, zr179_25, zr179_28, zr179_29, zr179_30, zr179_33, zr179_34, zr179_35, zr179_38, zr179_39, zr179_40, zr179_42, zr179_45, zr179_46, zr179_47, zr179_50, zr179_51, zr179_52, zr179_54, zr179_55, zr179_58, zr179_59, zr179_60, zr179_63, zr179_64, zr179_65, zr179_66, zr179_67, zr179_70, zr179_73, zr179_76, zr179_77, zr179_78, zr179_81, zr179_82, zr179_85, zr179_88, zr179_89, zr179_92, zr179_93, zr179_95, zr179_96, zr179_99, zr179_100, zr179_101, zr179_104, zr179_105, zr179_106, zr179_107, zr179_108, zr179_111, zr179_114, zr179_117, zr179_118, zr179_119, zr179_120, zr179_121, zr179_124, zr179_127, zr179_130, zr179_134, zr179_137, zr179_138, zr117_0, zr117_1, zr117_4, zr117_6, zr117_7, zr117_8, zr117_9, zr117_10, zr117_11, zs_m0 N, zs_m1 N, zs_m2 N, zh_m0 ca cb cs, zq_kill_int, zq_kill_ref, zq_kill_ret, zq_kill_null, zq_kill_long, zq_rf_some, zq_rf_none, true_and, and_true, true_implies, not_true_eq_false, not_false_eq_true, false_implies, Bool.true_eq_false, Bool.false_eq_true, nI_1, zb_i0, zb_i1, zb_i2, Option.toList_some, Option.toList_none, List.cons_append, List.nil_append, true_or, or_true, implies_true, zb_it, zb_if, zb_10, zb_00, zb_n5, zb_n2, zb_m1, zb_m3, zb_m9, or_true, true_or, or_false, false_or, h1, h2, hsz, h3, zb_m40, nI_add, x3, x4, hpk, k_M_canDo w4 w1 hw7 w6 w2 cz, hcan, hb, k_M_play hw7, q2, gn, if_true]
theorem jn_jn {K1 K2 M1 : zq_I} : jn K1 (jn K2 M1) = jn K1 M1 := by
  funext a
  by_cases e : a < 60
  · rw [jn_lo e, jn_lo e]
  · rw [jn_hi (by omega), jn_hi (by omega), jn_hi (by omega)]
theorem jn_of {K M1 : zq_I} (h : ∀ a, 60 ≤ a → K a = M1 a) : K = jn K M1 := by
  funext a
  by_cases e : a < 60
  · rw [jn_lo e]
  · rw [jn_hi (by omega), h a (by omega)]
theorem zm_go_jn {K : zq_I} : zm_go (jn K M) w = jn K (zm_go M w) := by
  have e60 : ∀ F : zq_I, jn K F 60 = F 60 := fun F => jn_hi (by omega)
  have e75 : ∀ F : zq_I, jn K F 75 = F 75 := fun F => jn_hi (by omega)
  have et : ∀ F : zq_I, zm_tr (jn K F) = zm_tr F := fun F => zm_tr_fr (jn_hi (by omega)) (jn_hi (by omega))
  simp only [zm_go, zq_u_jh (show 60 ≤ 60 by omega), zq_u_jh (show 60 ≤ 74 by omega), zq_u_jh (show 60 ≤ 75 by omega), e60, e75, et]
theorem zm_wr_jn {K : zq_I} {A at' : Nat} (hA : 60 ≤ A) : zm_wr (jn K M) A at' = jn K (zm_wr M A at') := by
  have ew : zm_wk (jn K M) A at' 7 = zm_wk M A at' 7 := by
    funext j
    unfold zm_wk zm_sn
    rw [jn_hi (by omega), jn_hi (by omega), jn_hi (by omega), jn_hi (by omega)]
  unfold zm_wr
  rw [ew, zq_w_jh hA]
theorem cano_jn {K : zq_I} : cano (jn K M) = cano M := cano_fr fun a ha => jn_hi ha
theorem gn_jn {K : zq_I} {ws : Nat → Nat} : ∀ m k (M : zq_I), gn W P ws (jn K M) k m = gn W P ws M k m := by
  intro m
  induction m with
  | zero => intros; rfl
  | succ m ih => intro k M; unfold gn; rw [cano_jn, zm_go_jn, ih]
theorem Cor.jn {K : zq_I} (h : Cor ca W P D C M) : Cor ca W P D C (jn K M) := by
  unfold Cor
  rw [jn_jn]
  exact h
theorem Cor.wr (hca : ca = 36 ∨ ca = 45) (h : Cor ca W P D C M) {A at' : Nat} (hA : 79 ≤ A) : Cor ca W P D C (zm_wr M A at') := by
  have o : ∀ a, a ≠ A → zm_wr M A at' a = M a := fun a ha => by unfold zm_wr; rw [zq_w_ne ha]
  refine ⟨sm_ct_fr h.1 (fun a ha => ?_) ?_, ?_⟩
  · rcases ha with ha | ha
    · rw [jn_lo (by omega), jn_lo (by omega)]
    · rw [jn_hi (by omega), jn_hi (by omega), o a (by omega)]
  · rw [jn_hi (by omega), jn_hi (by omega), o 60 (by omega)]; exact ⟨rfl, rfl, rfl⟩
  · have := h.2
    unfold sm_co sm_ah at this ⊢
    rw [jn_lo (a := 55) (by omega), jn_hi (a := 60) (by omega), jn_lo (a := 55 + 1) (by omega), jn_lo (a := 55 + 2) (by omega), jn_hi (a := 74) (by omega), jn_hi (a := 75) (by omega)] at this ⊢
    rw [o 60 (by omega), o 74 (by omega), o 75 (by omega)]
    exact this
end Z43
section Z43b
variable {N : Nat} {x z : Int32}
theorem zb_12 {n : Nat} (h : n ≤ 1000) : (12 < nI n) = (12 < n) := zb_lt (a := 12) (by omega) (by omega)
theorem p_goes : zq_pair N 76 179 [.ref 0, .int x, .retAddr 0, .retAddr 0] [.ref 60, .int x, .retAddr 0] := by
  intro hi hl ca cb cs W P D h
  have hca := h.court
  have hs := zq_Ss_rows (N := N) (ca := ca) (cb := cb) (cs := cs)
  have hc := zq_Ct_ok (N := N) (ca := ca) (cb := cb) (cs := cs) h.court
  obtain ⟨⟨w1, w2, w3, w4, w5, w6, -⟩, -, wa⟩ := id h.2.2.2.2.2.1
  rcases zb_ix x 6 (by omega) with hx | ⟨j, hj, rfl⟩
  · refine ⟨.int (-1), hi, hl, ca, cb, cs, hi, hl, W, P, D, fun Q => ?_, fun Q => ?_, h⟩
    · simp only [zr76_0, zr76_1, zr76_4, zr76_5, zr76_8, zr76_8n, zr76_9, zr76_9n, zr76_10, zr76_10n, zr76_13, zr76_14, zr76_15, zr76_16, zr76_19, zr76_22, zr76_25, zr76_27, zr76_28, zr76_28n, zr76_29, zr76_32, zr76_35, zr76_36, zr76_37, zr76_40, zr76_41, zr76_41n, zr76_42, zr76_45, zr76_47, zr76_50, zr76_51, zr76_52, zr76_55, zr76_56, zr76_57, zr76_59, zr76_59n, zr76_60, zr76_63, zr76_66, zr76_67, zr76_70, zr76_70n, zr76_71, zr76_74, zr76_75, zr76_76, zr76_79, zr76_82, zr76_83, zr76_84, zr76_87, zr76_88, zr76_91, zr76_94, zr76_95, zr76_98, zr76_99, zr76_102, zr76_103, zr76_106, zr76_107, zr76_110, zr76_111, zr76_113, zr76_113n, zr76_114, zr76_117, zr76_120, zr76_121, zr76_124, zr76_127, zr76_127n, zr76_128, zr76_131, zr76_132, zr76_133, zr76_134, zr76_135, zr76_136, zr76_139, zr76_140, zr76_143, zr76_146, zr76_147, zr76_150, zr76_150n, zr76_151, zr76_154, zr76_155, zr76_156, zr76_159, zr76_162, zr76_165, zr76_166, zs_x0 N, zh_x0 ca cb cs, zq_kill_int, zq_kill_ref, zq_kill_ret, zq_kill_null, zq_kill_long, zq_rf_some, zq_rf_none, true_and, and_true, true_implies, not_true_eq_false, not_false_eq_true, false_implies, Bool.true_eq_false, Bool.false_eq_true, nI_1, zb_i0, zb_i1, zb_i2, Option.toList_some, Option.toList_none, List.cons_append, List.nil_append, true_or, or_true, implies_true, zb_it, zb_if, zb_10, zb_00, zb_n5, zb_n2, zb_m1, zb_m3, zb_m9, or_true, true_or, or_false, false_or, k_EF_stripAt_bad hs hx]
    · simp only [zr179_0, zr179_1, zr179_4, zr179_7, zr179_8, zr179_9, zr179_10, zr179_13, zr179_16, zr179_18, zr179_19, zr179_20, zr179_23, zr179_24, zr179_25, zr179_28, zr179_29, zr179_30, zr179_33, zr179_34, zr179_35, zr179_38, zr179_39, zr179_40, zr179_42, zr179_45, zr179_46, zr179_47, zr179_50, zr179_51, zr179_52, zr179_54, zr179_55, zr179_58, zr179_59, zr179_60, zr179_63, zr179_64, zr179_65, zr179_66, zr179_67, zr179_70, zr179_73, zr179_76, zr179_77, zr179_78, zr179_81, zr179_82, zr179_85, zr179_88, zr179_89, zr179_92, zr179_93, zr179_95, zr179_96, zr179_99, zr179_100, zr179_101, zr179_104, zr179_105, zr179_106, zr179_107, zr179_108, zr179_111, zr179_114, zr179_117, zr179_118, zr179_119, zr179_120, zr179_121, zr179_124, zr179_127, zr179_130, zr179_133, zr179_134, zr179_137, zr179_138, zr111_0, zr111_1, zr111_2, zr111_3, zr111_6, zs_m0 N, zs_m1 N, zs_m2 N, zh_m0 ca cb cs, zq_kill_int, zq_kill_ref, zq_kill_ret, zq_kill_null, zq_kill_long, zq_rf_some, zq_rf_none, true_and, and_true, true_implies, not_true_eq_false, not_false_eq_true, false_implies, Bool.true_eq_false, Bool.false_eq_true, nI_1, zb_i0, zb_i1, zb_i2, Option.toList_some, Option.toList_none, List.cons_append, List.nil_append, true_or, or_true, implies_true, zb_it, zb_if, zb_10, zb_00, zb_n5, zb_n2, zb_m1, zb_m3, zb_m9, or_true, true_or, or_false, false_or, k_M_in, zm_in_bad (M1 := 5) hx (by decide) (by omega)]
  · have hin := zm_in_ok (M1 := 5) hj (by decide) (by omega)
    have hsp := (hs.2 j hj).2
    unfold zq_Sp at hsp
    have h1 : zq_xS (nI j) 6 := zb_x (by omega) (by omega)
    have h2 : (nI j).toNatClampNeg = j := zb_cl (by omega)
    by_cases hW0 : W = 0
    · have e0 : (nI W = 0) = True := eq_true (by rw [hW0]; rfl)
      refine ⟨.int (-4), hi, hl, ca, cb, cs, hi, hl, W, P, D, fun Q => ?_, fun Q => ?_, h⟩
      · simp only [zr76_0, zr76_1, zr76_4, zr76_5, zr76_8, zr76_8n, zr76_9, zr76_9n, zr76_10, zr76_10n, zr76_13, zr76_14, zr76_15, zr76_16, zr76_19, zr76_22, zr76_25, zr76_27, zr76_28, zr76_28n, zr76_29, zr76_32, zr76_35, zr76_36, zr76_37, zr76_40, zr76_41, zr76_41n, zr76_42, zr76_45, zr76_47, zr76_50, zr76_51, zr76_52, zr76_55, zr76_56, zr76_57, zr76_59, zr76_59n, zr76_60, zr76_63, zr76_66, zr76_67, zr76_70, zr76_70n, zr76_71, zr76_74, zr76_75, zr76_76, zr76_79, zr76_82, zr76_83, zr76_84, zr76_87, zr76_88, zr76_91, zr76_94, zr76_95, zr76_98, zr76_99, zr76_102, zr76_103, zr76_106, zr76_107, zr76_110, zr76_111, zr76_113, zr76_113n, zr76_114, zr76_117, zr76_120, zr76_121, zr76_124, zr76_127, zr76_127n, zr76_128, zr76_131, zr76_132, zr76_133, zr76_134, zr76_135, zr76_136, zr76_139, zr76_140, zr76_143, zr76_146, zr76_147, zr76_150, zr76_150n, zr76_151, zr76_154, zr76_155, zr76_156, zr76_159, zr76_162, zr76_165, zr76_166, zs_x0 N, zh_x0 ca cb cs, hc.1, zq_kill_int, zq_kill_ref, zq_kill_ret, zq_kill_null, zq_kill_long, zq_rf_some, zq_rf_none, true_and, and_true, true_implies, not_true_eq_false, not_false_eq_true, false_implies, Bool.true_eq_false, Bool.false_eq_true, nI_1, zb_i0, zb_i1, zb_i2, Option.toList_some, Option.toList_none, List.cons_append, List.nil_append, true_or, or_true, implies_true, zb_it, zb_if, zb_10, zb_00, zb_n5, zb_n2, zb_m1, zb_m3, zb_m9, or_true, true_or, or_false, false_or, k_EF_stripAt hs (show 6 ≤ 6 by omega) hj, w3, e0]
      · simp only [zr179_0, zr179_1, zr179_4, zr179_7, zr179_8, zr179_9, zr179_10, zr179_13, zr179_16, zr179_18, zr179_19, zr179_20, zr179_23, zr179_24, zr179_25, zr179_28, zr179_29, zr179_30, zr179_33, zr179_34, zr179_35, zr179_38, zr179_39, zr179_40, zr179_42, zr179_45, zr179_46, zr179_47, zr179_50, zr179_51, zr179_52, zr179_54, zr179_55, zr179_58, zr179_59, zr179_60, zr179_63, zr179_64, zr179_65, zr179_66, zr179_67, zr179_70, zr179_73, zr179_76, zr179_77, zr179_78, zr179_81, zr179_82, zr179_85, zr179_88, zr179_89, zr179_92, zr179_93, zr179_95, zr179_96, zr179_99, zr179_100, zr179_101, zr179_104, zr179_105, zr179_106, zr179_107, zr179_108, zr179_111, zr179_114, zr179_117, zr179_118, zr179_119, zr179_120, zr179_121, zr179_124, zr179_127, zr179_130, zr179_133, zr179_134, zr179_137, zr179_138, zr111_0, zr111_1, zr111_2, zr111_3, zr111_6, zs_m0 N, zs_m1 N, zs_m2 N, zh_m0 ca cb cs, zq_kill_int, zq_kill_ref, zq_kill_ret, zq_kill_null, zq_kill_long, zq_rf_some, zq_rf_none, true_and, and_true, true_implies, not_true_eq_false, not_false_eq_true, false_implies, Bool.true_eq_false, Bool.false_eq_true, nI_1, zb_i0, zb_i1, zb_i2, Option.toList_some, Option.toList_none, List.cons_append, List.nil_append, true_or, or_true, implies_true, zb_it, zb_if, zb_10, zb_00, zb_n5, zb_n2, zb_m1, zb_m3, zb_m9, or_true, true_or, or_false, false_or, k_M_in, hin, w4, e0]
    · have e0 : (nI W = 0) = False := eq_false (nI_ne0 (by omega) (by omega))
      rcases h.2.2.2.1 j hj with ⟨e1, e2⟩ | ⟨n, hn, e1, e2, e3⟩
      · refine ⟨.int (-3), cf hi 1, hl, ca, cb, cs, mf (cf hi 1) 1, hl, W, P, D, fun Q => ?_, fun Q => ?_, h.meet (by omega)⟩
        · simp only [zr76_0, zr76_1, zr76_4, zr76_5, zr76_8, zr76_8n, zr76_9, zr76_9n, zr76_10, zr76_10n, zr76_13, zr76_14, zr76_15, zr76_16, zr76_19, zr76_22, zr76_25, zr76_27, zr76_28, zr76_28n, zr76_29, zr76_32, zr76_35, zr76_36, zr76_37, zr76_40, zr76_41, zr76_41n, zr76_42, zr76_45, zr76_47, zr76_50, zr76_51, zr76_52, zr76_55, zr76_56, zr76_57, zr76_59, zr76_59n, zr76_60, zr76_63, zr76_66, zr76_67, zr76_70, zr76_70n, zr76_71, zr76_74, zr76_75, zr76_76, zr76_79, zr76_82, zr76_83, zr76_84, zr76_87, zr76_88, zr76_91, zr76_94, zr76_95, zr76_98, zr76_99, zr76_102, zr76_103, zr76_106, zr76_107, zr76_110, zr76_111, zr76_113, zr76_113n, zr76_114, zr76_117, zr76_120, zr76_121, zr76_124, zr76_127, zr76_127n, zr76_128, zr76_131, zr76_132, zr76_133, zr76_134, zr76_135, zr76_136, zr76_139, zr76_140, zr76_143, zr76_146, zr76_147, zr76_150, zr76_150n, zr76_151, zr76_154, zr76_155, zr76_156, zr76_159, zr76_162, zr76_165, zr76_166, zr15_0, zr15_1, zr15_4, zr15_7, zr15_8, zr15_11, zr15_12, zs_x0 N, zh_x0 ca cb cs, hc.1, hsp, zq_kill_int, zq_kill_ref, zq_kill_ret, zq_kill_null, zq_kill_long, zq_rf_some, zq_rf_none, true_and, and_true, true_implies, not_true_eq_false, not_false_eq_true, false_implies, Bool.true_eq_false, Bool.false_eq_true, nI_1, zb_i0, zb_i1, zb_i2, Option.toList_some, Option.toList_none, List.cons_append, List.nil_append, true_or, or_true, implies_true, zb_it, zb_if, zb_10, zb_00, zb_n5, zb_n2, zb_m1, zb_m3, zb_m9, or_true, true_or, or_false, false_or, k_EF_stripAt hs (show 6 ≤ 6 by omega) hj, w3, e0, e1, k_EF_found1]
        · have e4 : cf hi 1 62 j = -9 := by unfold cf; simp [zq_u, e2]
          have e5 : cf hi 1 60 10 = nI W := by unfold cf; simp [zq_u, w4]
          simp only [zr179_0, zr179_1, zr179_4, zr179_7, zr179_8, zr179_9, zr179_10, zr179_13, zr179_16, zr179_18, zr179_19, zr179_20, zr179_23, zr179_24, zr179_25, zr179_28, zr179_29, zr179_30, zr179_33, zr179_34, zr179_35, zr179_38, zr179_39, zr179_40, zr179_42, zr179_45, zr179_46, zr179_47, zr179_50, zr179_51, zr179_52, zr179_54, zr179_55, zr179_58, zr179_59, zr179_60, zr179_63, zr179_64, zr179_65, zr179_66, zr179_67, zr179_70, zr179_73, zr179_76, zr179_77, zr179_78, zr179_81, zr179_82, zr179_85, zr179_88, zr179_89, zr179_92, zr179_93, zr179_95, zr179_96, zr179_99, zr179_100, zr179_101, zr179_104, zr179_105, zr179_106, zr179_107, zr179_108, zr179_111, zr179_114, zr179_117, zr179_118, zr179_119, zr179_120, zr179_121, zr179_124, zr179_127, zr179_130, zr179_133, zr179_134, zr179_137, zr179_138, zr111_0, zr111_1, zr111_2, zr111_3, zr111_6, zs_m0 N, zs_m1 N, zs_m2 N, zh_m0 ca cb cs, zq_kill_int, zq_kill_ref, zq_kill_ret, zq_kill_null, zq_kill_long, zq_rf_some, zq_rf_none, true_and, and_true, true_implies, not_true_eq_false, not_false_eq_true, false_implies, Bool.true_eq_false, Bool.false_eq_true, nI_1, zb_i0, zb_i1, zb_i2, Option.toList_some, Option.toList_none, List.cons_append, List.nil_append, true_or, or_true, implies_true, zb_it, zb_if, zb_10, zb_00, zb_n5, zb_n2, zb_m1, zb_m3, zb_m9, or_true, true_or, or_false, false_or, k_M_in, hin, h1, h2, e4, e5, e0, k_M_meet1]
      · have q1 : (nI n < 0) = False := eq_false (nI_pos (by omega))
        by_cases h12 : 12 < n
        · refine ⟨.int (-3), cf hi 5, hl, ca, cb, cs, mf (cf hi 5) 5, hl, W, P, D, fun Q => ?_, fun Q => ?_, h.meet (by omega)⟩
          · simp only [zr76_0, zr76_1, zr76_4, zr76_5, zr76_8, zr76_8n, zr76_9, zr76_9n, zr76_10, zr76_10n, zr76_13, zr76_14, zr76_15, zr76_16, zr76_19, zr76_22, zr76_25, zr76_27, zr76_28, zr76_28n, zr76_29, zr76_32, zr76_35, zr76_36, zr76_37, zr76_40, zr76_41, zr76_41n, zr76_42, zr76_45, zr76_47, zr76_50, zr76_51, zr76_52, zr76_55, zr76_56, zr76_57, zr76_59, zr76_59n, zr76_60, zr76_63, zr76_66, zr76_67, zr76_70, zr76_70n, zr76_71, zr76_74, zr76_75, zr76_76, zr76_79, zr76_82, zr76_83, zr76_84, zr76_87, zr76_88, zr76_91, zr76_94, zr76_95, zr76_98, zr76_99, zr76_102, zr76_103, zr76_106, zr76_107, zr76_110, zr76_111, zr76_113, zr76_113n, zr76_114, zr76_117, zr76_120, zr76_121, zr76_124, zr76_127, zr76_127n, zr76_128, zr76_131, zr76_132, zr76_133, zr76_134, zr76_135, zr76_136, zr76_139, zr76_140, zr76_143, zr76_146, zr76_147, zr76_150, zr76_150n, zr76_151, zr76_154, zr76_155, zr76_156, zr76_159, zr76_162, zr76_165, zr76_166, zr15_0, zr15_1, zr15_4, zr15_7, zr15_8, zr15_11, zr15_12, zs_x0 N, zh_x0 ca cb cs, hc.1, hsp, zq_kill_int, zq_kill_ref, zq_kill_ret, zq_kill_null, zq_kill_long, zq_rf_some, zq_rf_none, true_and, and_true, true_implies, not_true_eq_false, not_false_eq_true, false_implies, Bool.true_eq_false, Bool.false_eq_true, nI_1, zb_i0, zb_i1, zb_i2, Option.toList_some, Option.toList_none, List.cons_append, List.nil_append, true_or, or_true, implies_true, zb_it, zb_if, zb_10, zb_00, zb_n5, zb_n2, zb_m1, zb_m3, zb_m9, or_true, true_or, or_false, false_or, k_EF_stripAt hs (show 6 ≤ 6 by omega) hj, w3, e0, e1, q1, zb_12 (show n ≤ 1000 by omega), h12, k_EF_found5]
          · have e4 : cf hi 5 62 j = nI n := by unfold cf; simp [zq_u, e2]
            have e5 : cf hi 5 60 10 = nI W := by unfold cf; simp [zq_u, w4]
            simp only [zr179_0, zr179_1, zr179_4, zr179_7, zr179_8, zr179_9, zr179_10, zr179_13, zr179_16, zr179_18, zr179_19, zr179_20, zr179_23, zr179_24, zr179_25, zr179_28, zr179_29, zr179_30, zr179_33, zr179_34, zr179_35, zr179_38, zr179_39, zr179_40, zr179_42, zr179_45, zr179_46, zr179_47, zr179_50, zr179_51, zr179_52, zr179_54, zr179_55, zr179_58, zr179_59, zr179_60, zr179_63, zr179_64, zr179_65, zr179_66, zr179_67, zr179_70, zr179_73, zr179_76, zr179_77, zr179_78, zr179_81, zr179_82, zr179_85, zr179_88, zr179_89, zr179_92, zr179_93, zr179_95, zr179_96, zr179_99, zr179_100, zr179_101, zr179_104, zr179_105, zr179_106, zr179_107, zr179_108, zr179_111, zr179_114, zr179_117, zr179_118, zr179_119, zr179_120, zr179_121, zr179_124, zr179_127, zr179_130, zr179_133, zr179_134, zr179_137, zr179_138, zr111_0, zr111_1, zr111_2, zr111_3, zr111_6, zs_m0 N, zs_m1 N, zs_m2 N, zh_m0 ca cb cs, zq_kill_int, zq_kill_ref, zq_kill_ret, zq_kill_null, zq_kill_long, zq_rf_some, zq_rf_none, true_and, and_true, true_implies, not_true_eq_false, not_false_eq_true, false_implies, Bool.true_eq_false, Bool.false_eq_true, nI_1, zb_i0, zb_i1, zb_i2, Option.toList_some, Option.toList_none, List.cons_append, List.nil_append, true_or, or_true, implies_true, zb_it, zb_if, zb_10, zb_00, zb_n5, zb_n2, zb_m1, zb_m3, zb_m9, or_true, true_or, or_false, false_or, k_M_in, hin, h1, h2, e4, e5, e0, q1, zb_12 (show n ≤ 1000 by omega), h12, k_M_meet5]
        · -- the check of the row
          have chkC : ∀ k, k ≤ n → (∀ i, i < k → ¬ hi (2 + 1 + 2 * j) i < 0 ∧ hi (2 + 1 + 2 * j) i < nI W) → ∀ Q, zq_P 58 76 0 [.ref 0, .int (nI j), .retAddr 0, .retAddr 0] [] (zq_SG N, hi, hl, zq_HR ca cb cs) Q = zq_P 58 76 58 [.ref 0, .int (nI j), .ref (2 + 2 * j), .int (nI k)] [] (zq_SG N, hi, hl, zq_HR ca cb cs) Q := by
            intro k hk hall Q
            have loop := zq_loop (n := k) (f := fun i => zq_P 58 76 58 [.ref 0, .int (nI j), .ref (2 + 2 * j), .int (nI i)] [] (zq_SG N, hi, hl, zq_HR ca cb cs) Q) fun i hi' => by
              have x1 : zq_xS (nI i) 40 := zb_x (by omega) (by omega)
              have x2 : (nI i).toNatClampNeg = i := zb_cl (by omega)
              have h3 : (nI i < nI n) = True := eq_true ((nI_ltI (by omega) (by omega)).mpr (by omega))
              rw [zr76_58]
              simp only [zr76_0, zr76_1, zr76_4, zr76_5, zr76_8, zr76_8n, zr76_9, zr76_9n, zr76_10, zr76_10n, zr76_13, zr76_14, zr76_15, zr76_16, zr76_19, zr76_22, zr76_25, zr76_27, zr76_28, zr76_28n, zr76_29, zr76_32, zr76_35, zr76_36, zr76_37, zr76_40, zr76_41, zr76_41n, zr76_42, zr76_45, zr76_47, zr76_50, zr76_51, zr76_52, zr76_55, zr76_56, zr76_57, zr76_59, zr76_59n, zr76_60, zr76_63, zr76_66, zr76_67, zr76_70, zr76_70n, zr76_71, zr76_74, zr76_75, zr76_76, zr76_79, zr76_82, zr76_83, zr76_84, zr76_87, zr76_88, zr76_91, zr76_94, zr76_95, zr76_98, zr76_99, zr76_102, zr76_103, zr76_106, zr76_107, zr76_110, zr76_111, zr76_113, zr76_113n, zr76_114, zr76_117, zr76_120, zr76_121, zr76_124, zr76_127, zr76_127n, zr76_128, zr76_131, zr76_132, zr76_133, zr76_134, zr76_135, zr76_136, zr76_139, zr76_140, zr76_143, zr76_146, zr76_147, zr76_150, zr76_150n, zr76_151, zr76_154, zr76_155, zr76_156, zr76_159, zr76_162, zr76_165, zr76_166, zs_x0 N, zh_x0 ca cb cs, hc.1, hsp, zq_kill_int, zq_kill_ref, zq_kill_ret, zq_kill_null, zq_kill_long, zq_rf_some, zq_rf_none, true_and, and_true, true_implies, not_true_eq_false, not_false_eq_true, false_implies, Bool.true_eq_false, Bool.false_eq_true, nI_1, zb_i0, zb_i1, zb_i2, Option.toList_some, Option.toList_none, List.cons_append, List.nil_append, true_or, or_true, implies_true, zb_it, zb_if, zb_10, zb_00, zb_n5, zb_n2, zb_m1, zb_m3, zb_m9, or_true, true_or, or_false, false_or, e1, h3, x1, x2, k_Court_hasWay hc, zc_has, w3, hall i hi', and_self, decide_true]
            simp only [zr76_0, zr76_1, zr76_4, zr76_5, zr76_8, zr76_8n, zr76_9, zr76_9n, zr76_10, zr76_10n, zr76_13, zr76_14, zr76_15, zr76_16, zr76_19, zr76_22, zr76_25, zr76_27, zr76_28, zr76_28n, zr76_29, zr76_32, zr76_35, zr76_36, zr76_37, zr76_40, zr76_41, zr76_41n, zr76_42, zr76_45, zr76_47, zr76_50, zr76_51, zr76_52, zr76_55, zr76_56, zr76_57, zr76_59, zr76_59n, zr76_60, zr76_63, zr76_66, zr76_67, zr76_70, zr76_70n, zr76_71, zr76_74, zr76_75, zr76_76, zr76_79, zr76_82, zr76_83, zr76_84, zr76_87, zr76_88, zr76_91, zr76_94, zr76_95, zr76_98, zr76_99, zr76_102, zr76_103, zr76_106, zr76_107, zr76_110, zr76_111, zr76_113, zr76_113n, zr76_114, zr76_117, zr76_120, zr76_121, zr76_124, zr76_127, zr76_127n, zr76_128, zr76_131, zr76_132, zr76_133, zr76_134, zr76_135, zr76_136, zr76_139, zr76_140, zr76_143, zr76_146, zr76_147, zr76_150, zr76_150n, zr76_151, zr76_154, zr76_155, zr76_156, zr76_159, zr76_162, zr76_165, zr76_166, zr15_0, zr15_1, zr15_4, zr15_7, zr15_8, zr15_11, zr15_12, zs_x0 N, zh_x0 ca cb cs, hc.1, hsp, zq_kill_int, zq_kill_ref, zq_kill_ret, zq_kill_null, zq_kill_long, zq_rf_some, zq_rf_none, true_and, and_true, true_implies, not_true_eq_false, not_false_eq_true, false_implies, Bool.true_eq_false, Bool.false_eq_true, nI_1, zb_i0, zb_i1, zb_i2, Option.toList_some, Option.toList_none, List.cons_append, List.nil_append, true_or, or_true, implies_true, zb_it, zb_if, zb_10, zb_00, zb_n5, zb_n2, zb_m1, zb_m3, zb_m9, or_true, true_or, or_false, false_or, k_EF_stripAt hs (show 6 ≤ 6 by omega) hj, w3, e0, e1, q1, zb_12 (show n ≤ 1000 by omega), h12]
            exact loop
          have chkM : ∀ (M : zq_I) k, k ≤ n → M 60 10 = nI W → M 62 j = nI n → (∀ i, i < n → M 63 (40 * j + i) = hi (2 + 1 + 2 * j) i) → (∀ i, i < k → ¬ hi (2 + 1 + 2 * j) i < 0 ∧ hi (2 + 1 + 2 * j) i < nI W) → ∀ Q, zq_P 58 179 0 [.ref 60, .int (nI j), .retAddr 0] [] (zq_SG N, M, hl, zq_HR ca cb ca) Q = zq_P 58 179 53 [.ref 60, .int (nI j), .int (nI k)] [] (zq_SG N, M, hl, zq_HR ca cb ca) Q ∧ zq_P 58 179 0 [.ref 60, .int (nI j), .retAddr 0] [] (zq_SG N, M, hl, zq_HR ca cb cs) Q = zq_P 58 179 53 [.ref 60, .int (nI j), .int (nI k)] [] (zq_SG N, M, hl, zq_HR ca cb cs) Q := by
            intro M k hk m10 m62 m63 hall Q
            have gen : ∀ cs, zq_P 58 179 0 [.ref 60, .int (nI j), .retAddr 0] [] (zq_SG N, M, hl, zq_HR ca cb cs) Q = zq_P 58 179 53 [.ref 60, .int (nI j), .int (nI k)] [] (zq_SG N, M, hl, zq_HR ca cb cs) Q := by
              intro cs
              have loop := zq_loop (n := k) (f := fun i => zq_P 58 179 53 [.ref 60, .int (nI j), .int (nI i)] [] (zq_SG N, M, hl, zq_HR ca cb cs) Q) fun i hi' => by
                have x3 : zq_xS (nI (40 * j + i)) 240 := zb_x (by omega) (by omega)
                have x4 : (nI (40 * j + i)).toNatClampNeg = 40 * j + i := zb_cl (by omega)
                have h3 : (nI i < nI n) = True := eq_true ((nI_ltI (by omega) (by omega)).mpr (by omega))
                rw [zr179_53]
                simp only [zr179_0, zr179_1, zr179_4, zr179_7, zr179_8, zr179_9, zr179_10, zr179_13, zr179_16, zr179_18, zr179_19, zr179_20, zr179_23, zr179_24, zr179_25, zr179_28, zr179_29, zr179_30, zr179_33, zr179_34, zr179_35, zr179_38, zr179_39, zr179_40, zr179_42, zr179_45, zr179_46, zr179_47, zr179_50, zr179_51, zr179_52, zr179_54, zr179_55, zr179_58, zr179_59, zr179_60, zr179_63, zr179_64, zr179_65, zr179_66, zr179_67, zr179_70, zr179_73, zr179_76, zr179_77, zr179_78, zr179_81, zr179_82, zr179_85, zr179_88, zr179_89, zr179_92, zr179_93, zr179_95, zr179_96, zr179_99, zr179_100, zr179_101, zr179_104, zr179_105, zr179_106, zr179_107, zr179_108, zr179_111, zr179_114, zr179_117, zr179_118, zr179_119, zr179_120, zr179_121, zr179_124, zr179_127, zr179_130, zr179_133, zr179_134, zr179_137, zr179_138, zr117_0, zr117_1, zr117_4, zr117_6, zr117_7, zr117_8, zr117_9, zr117_10, zr117_11, zs_m0 N, zs_m1 N, zs_m2 N, zh_m0 ca cb cs, zq_kill_int, zq_kill_ref, zq_kill_ret, zq_kill_null, zq_kill_long, zq_rf_some, zq_rf_none, true_and, and_true, true_implies, not_true_eq_false, not_false_eq_true, false_implies, Bool.true_eq_false, Bool.false_eq_true, nI_1, zb_i0, zb_i1, zb_i2, Option.toList_some, Option.toList_none, List.cons_append, List.nil_append, true_or, or_true, implies_true, zb_it, zb_if, zb_10, zb_00, zb_n5, zb_n2, zb_m1, zb_m3, zb_m9, or_true, true_or, or_false, false_or, h1, h2, m62, h3, zb_m40, nI_add, x3, x4, m63 i (show i < n by omega), k_M_isWay m10 w1, hall i hi', and_self, decide_true]
              simp only [zr179_0, zr179_1, zr179_4, zr179_7, zr179_8, zr179_9, zr179_10, zr179_13, zr179_16, zr179_18, zr179_19, zr179_20, zr179_23, zr179_24, zr179_25, zr179_28, zr179_29, zr179_30, zr179_33, zr179_34, zr179_35, zr179_38, zr179_39, zr179_40, zr179_42, zr179_45, zr179_46, zr179_47, zr179_50, zr179_51, zr179_52, zr179_54, zr179_55, zr179_58, zr179_59, zr179_60, zr179_63, zr179_64, zr179_65, zr179_66, zr179_67, zr179_70, zr179_73, zr179_76, zr179_77, zr179_78, zr179_81, zr179_82, zr179_85, zr179_88, zr179_89, zr179_92, zr179_93, zr179_95, zr179_96, zr179_99, zr179_100, zr179_101, zr179_104, zr179_105, zr179_106, zr179_107, zr179_108, zr179_111, zr179_114, zr179_117, zr179_118, zr179_119, zr179_120, zr179_121, zr179_124, zr179_127, zr179_130, zr179_133, zr179_134, zr179_137, zr179_138, zr111_0, zr111_1, zr111_2, zr111_3, zr111_6, zs_m0 N, zs_m1 N, zs_m2 N, zh_m0 ca cb cs, zq_kill_int, zq_kill_ref, zq_kill_ret, zq_kill_null, zq_kill_long, zq_rf_some, zq_rf_none, true_and, and_true, true_implies, not_true_eq_false, not_false_eq_true, false_implies, Bool.true_eq_false, Bool.false_eq_true, nI_1, zb_i0, zb_i1, zb_i2, Option.toList_some, Option.toList_none, List.cons_append, List.nil_append, true_or, or_true, implies_true, zb_it, zb_if, zb_10, zb_00, zb_n5, zb_n2, zb_m1, zb_m3, zb_m9, or_true, true_or, or_false, false_or, k_M_in, hin, h1, h2, m10, m62, e0, q1, zb_12 (show n ≤ 1000 by omega), h12]
              exact loop
            exact ⟨gen ca, gen cs⟩
          by_cases hall : ∀ i, i < n → ¬ hi (2 + 1 + 2 * j) i < 0 ∧ hi (2 + 1 + 2 * j) i < nI W
          · have hws : ∀ k, k < n → hi (2 + 1 + 2 * j) k = nI (hi (2 + 1 + 2 * j) k).toNatClampNeg ∧ (hi (2 + 1 + 2 * j) k).toNatClampNeg < W := fun k hk => by
              obtain ⟨a1, a2⟩ := hall k hk
              obtain ⟨v, hv, e⟩ := nI_of a1
              rw [e] at a2 ⊢
              rw [zb_cl (by omega)]
              exact ⟨rfl, (nI_ltI (by omega) (by omega)).mp a2⟩
            generalize hwe : (fun k => (hi (2 + 1 + 2 * j) k).toNatClampNeg) = ws
            have hws2 : ∀ k, k < n → hi (2 + 1 + 2 * j) k = nI (ws k) ∧ ws k < W := fun k hk => by rw [← hwe]; exact hws k hk
            have d0 := h.2.2.2.2.2.2.1.1
            obtain ⟨C0, b1, b2, b3, b4, -⟩ := k_Search_begin (N := N) (d := 56) (cb := cb) (cs := cs) (hl := hl) (n := 0) hca w3 w1 (by omega)
            have hcor := Cor.start h b2 b3 b4
            have hcor1 := hcor.wr hca (A := 79) (at' := 0) (by omega)
            obtain ⟨C2, c1, c2⟩ := k_EF_goes_loop (N := N) (d := 53) (cb := cb) (hl := hl) (x := nI j) hca hj (show n ≤ 12 by omega) (fun k hk => (hws2 k hk).2) n 0 (by omega) D C0 _ (by omega) hcor1 (by rw [b2 _ (by omega)]; exact e1) (fun k hk => by rw [b2 _ (by omega)]; exact (hws2 k hk).1)
            have f2 : ∀ a, a < 54 ∨ 57 < a → C2 a = hi a := fun a ha => by rw [c1 a ha, b2 a ha]
            have hjn : zm_wr C2 79 0 = jn C2 (zm_wr hi 79 0) := by
              have e : C2 = jn C2 hi := jn_of fun a ha => f2 a (by omega)
              have e9 := zm_wr_jn (M := hi) (K := C2) (A := 79) (at' := 0) (by omega)
              rw [← e] at e9
              exact e9
            have hcor2 := hcor1.jn (K := C2)
            rw [← hjn] at hcor2
            have wo : ∀ a, a ≠ 79 → zm_wr C2 79 0 a = C2 a := fun a ha => by unfold zm_wr; rw [zq_w_ne ha]
            obtain ⟨M2, d1, d2⟩ := k_M_goes_loop (N := N) (d := 53) (cb := cb) (cs := ca) (hl := hl) hca hj (show n ≤ 12 by omega) (fun k hk => (hws2 k hk).2) n 0 (by omega) D C0 _ (by omega) hcor2 (by rw [wo _ (by omega), f2 _ (by omega)]; exact e2) (fun k hk => by rw [wo _ (by omega), f2 _ (by omega), ← e3 k hk]; exact (hws2 k hk).1)
            have hgn : gn W P ws (zm_wr C2 79 0) 0 n = gn W P ws (zm_wr hi 79 0) 0 n := by rw [hjn]; exact gn_jn _ _ _
            have h3 : (nI n < nI n) = False := eq_false (nI_nlt (Nat.le_refl _) (by omega))
            refine ⟨.int (nI (gn W P ws (zm_wr hi 79 0) 0 n)), C2, hl, ca, cb, ca, zm_wr C2 79 0, hl, W, P, D, fun Q => ?_, fun Q => ?_, ?_⟩
            · rw [chkC n (Nat.le_refl _) hall, zr76_58]
              have b1' : ∀ Q, zq_P 57 64 0 [.ref 54, .ref ca, .ref 32, .int 0, .retAddr 0] [] (zq_SG N, hi, hl, zq_HR ca cb cs) Q = _ := b1
              simp only [zr76_0, zr76_1, zr76_4, zr76_5, zr76_8, zr76_8n, zr76_9, zr76_9n, zr76_10, zr76_10n, zr76_13, zr76_14, zr76_15, zr76_16, zr76_19, zr76_22, zr76_25, zr76_27, zr76_28, zr76_28n, zr76_29, zr76_32, zr76_35, zr76_36, zr76_37, zr76_40, zr76_41, zr76_41n, zr76_42, zr76_45, zr76_47, zr76_50, zr76_51, zr76_52, zr76_55, zr76_56, zr76_57, zr76_59, zr76_59n, zr76_60, zr76_63, zr76_66, zr76_67, zr76_70, zr76_70n, zr76_71, zr76_74, zr76_75, zr76_76, zr76_79, zr76_82, zr76_83, zr76_84, zr76_87, zr76_88, zr76_91, zr76_94, zr76_95, zr76_98, zr76_99, zr76_102, zr76_103, zr76_106, zr76_107, zr76_110, zr76_111, zr76_113, zr76_113n, zr76_114, zr76_117, zr76_120, zr76_121, zr76_124, zr76_127, zr76_127n, zr76_128, zr76_131, zr76_132, zr76_133, zr76_134, zr76_135, zr76_136, zr76_139, zr76_140, zr76_143, zr76_146, zr76_147, zr76_150, zr76_150n, zr76_151, zr76_154, zr76_155, zr76_156, zr76_159, zr76_162, zr76_165, zr76_166, zs_x0 N, zh_x0 ca cb cs, zs_q0 N, hc.1, hsp, zq_kill_int, zq_kill_ref, zq_kill_ret, zq_kill_null, zq_kill_long, zq_rf_some, zq_rf_none, true_and, and_true, true_implies, not_true_eq_false, not_false_eq_true, false_implies, Bool.true_eq_false, Bool.false_eq_true, nI_1, zb_i0, zb_i1, zb_i2, Option.toList_some, Option.toList_none, List.cons_append, List.nil_append, true_or, or_true, implies_true, zb_it, zb_if, zb_10, zb_00, zb_n5, zb_n2, zb_m1, zb_m3, zb_m9, or_true, true_or, or_false, false_or, e1, h3, b1']
              exact c2 Q
            · rw [(chkM C2 n (Nat.le_refl _) (by rw [f2 _ (by omega)]; exact w4) (by rw [f2 _ (by omega)]; exact e2) (fun i hi' => by rw [f2 _ (by omega)]; exact (e3 i hi').symm) hall Q).1, zr179_53]
              have m62 : C2 62 j = nI n := by rw [f2 _ (by omega)]; exact e2
              have d2' : ∀ Q, zq_P (57 + 1) 179 94 [.ref 60, .int (nI j), .int 0] [] (zq_SG N, zm_wr C2 79 0, hl, zq_HR ca cb ca) Q = _ := d2
              simp only [zr179_0, zr179_1, zr179_4, zr179_7, zr179_8, zr179_9, zr179_10, zr179_13, zr179_16, zr179_18, zr179_19, zr179_20, zr179_23, zr179_24, zr179_25, zr179_28, zr179_29, zr179_30, zr179_33, zr179_34, zr179_35, zr179_38, zr179_39, zr179_40, zr179_42, zr179_45, zr179_46, zr179_47, zr179_50, zr179_51, zr179_52, zr179_54, zr179_55, zr179_58, zr179_59, zr179_60, zr179_63, zr179_64, zr179_65, zr179_66, zr179_67, zr179_70, zr179_73, zr179_76, zr179_77, zr179_78, zr179_81, zr179_82, zr179_85, zr179_88, zr179_89, zr179_92, zr179_93, zr179_95, zr179_96, zr179_99, zr179_100, zr179_101, zr179_104, zr179_105, zr179_106, zr179_107, zr179_108, zr179_111, zr179_114, zr179_117, zr179_118, zr179_119, zr179_120, zr179_121, zr179_124, zr179_127, zr179_130, zr179_133, zr179_134, zr179_137, zr179_138, zs_m0 N, zs_m1 N, zs_m2 N, zh_m0 ca cb ca, zq_kill_int, zq_kill_ref, zq_kill_ret, zq_kill_null, zq_kill_long, zq_rf_some, zq_rf_none, true_and, and_true, true_implies, not_true_eq_false, not_false_eq_true, false_implies, Bool.true_eq_false, Bool.false_eq_true, nI_1, zb_i0, zb_i1, zb_i2, Option.toList_some, Option.toList_none, List.cons_append, List.nil_append, true_or, or_true, implies_true, zb_it, zb_if, zb_10, zb_00, zb_n5, zb_n2, zb_m1, zb_m3, zb_m9, or_true, true_or, or_false, false_or, h1, h2, m62, h3, k_M_begin, d2', k_M_back, zm_rd_back d1, hgn]
            · refine h.search (fun a ha a0 => f2 a (by omega)) (by rw [f2 _ (by omega)]) ?_ (fun a ha => wo a (by omega)) (fun a a1 a2 => wo a (by omega)) (fun f _ _ => by rw [wo 60 (by omega)]) h.2.2.1.2.1 h.2.2.1.2.2.1
              rw [wo 60 (by omega), f2 0 (by omega), f2 60 (by omega)]
              exact h.2.2.1.1
          · have hex : ∃ i, i < n ∧ ¬ (¬ hi (2 + 1 + 2 * j) i < 0 ∧ hi (2 + 1 + 2 * j) i < nI W) := Classical.byContradiction fun q => hall fun i hi' => Classical.byContradiction fun r => q ⟨i, hi', r⟩
            obtain ⟨k, ⟨hk1, hk2⟩, hk3⟩ := pk_least _ hex
            have hbef : ∀ i, i < k → ¬ hi (2 + 1 + 2 * j) i < 0 ∧ hi (2 + 1 + 2 * j) i < nI W := fun i hi' => Classical.byContradiction fun r => hk3 i hi' ⟨by omega, r⟩
            have h3 : (nI k < nI n) = True := eq_true ((nI_ltI (by omega) (by omega)).mpr (by omega))
            refine ⟨.int (-3), cf hi 3, hl, ca, cb, cs, mf (cf hi 3) 3, hl, W, P, D, fun Q => ?_, fun Q => ?_, h.meet (by omega)⟩
            · have x1 : zq_xS (nI k) 40 := zb_x (by omega) (by omega)
              have x2 : (nI k).toNatClampNeg = k := zb_cl (by omega)
              rw [chkC k (by omega) hbef, zr76_58]
              simp only [zr76_0, zr76_1, zr76_4, zr76_5, zr76_8, zr76_8n, zr76_9, zr76_9n, zr76_10, zr76_10n, zr76_13, zr76_14, zr76_15, zr76_16, zr76_19, zr76_22, zr76_25, zr76_27, zr76_28, zr76_28n, zr76_29, zr76_32, zr76_35, zr76_36, zr76_37, zr76_40, zr76_41, zr76_41n, zr76_42, zr76_45, zr76_47, zr76_50, zr76_51, zr76_52, zr76_55, zr76_56, zr76_57, zr76_59, zr76_59n, zr76_60, zr76_63, zr76_66, zr76_67, zr76_70, zr76_70n, zr76_71, zr76_74, zr76_75, zr76_76, zr76_79, zr76_82, zr76_83, zr76_84, zr76_87, zr76_88, zr76_91, zr76_94, zr76_95, zr76_98, zr76_99, zr76_102, zr76_103, zr76_106, zr76_107, zr76_110, zr76_111, zr76_113, zr76_113n, zr76_114, zr76_117, zr76_120, zr76_121, zr76_124, zr76_127, zr76_127n, zr76_128, zr76_131, zr76_132, zr76_133, zr76_134, zr76_135, zr76_136, zr76_139, zr76_140, zr76_143, zr76_146, zr76_147, zr76_150, zr76_150n, zr76_151, zr76_154, zr76_155, zr76_156, zr76_159, zr76_162, zr76_165, zr76_166, zs_x0 N, zh_x0 ca cb cs, hc.1, hsp, zq_kill_int, zq_kill_ref, zq_kill_ret, zq_kill_null, zq_kill_long, zq_rf_some, zq_rf_none, true_and, and_true, true_implies, not_true_eq_false, not_false_eq_true, false_implies, Bool.true_eq_false, Bool.false_eq_true, nI_1, zb_i0, zb_i1, zb_i2, Option.toList_some, Option.toList_none, List.cons_append, List.nil_append, true_or, or_true, implies_true, zb_it, zb_if, zb_10, zb_00, zb_n5, zb_n2, zb_m1, zb_m3, zb_m9, or_true, true_or, or_false, false_or, e1, h3, x1, x2, k_Court_hasWay hc, zc_has, w3, hk2, decide_false, k_EF_found3]
            · have x3 : zq_xS (nI (40 * j + k)) 240 := zb_x (by omega) (by omega)
              have x4 : (nI (40 * j + k)).toNatClampNeg = 40 * j + k := zb_cl (by omega)
              have e4 : cf hi 3 62 j = nI n := by unfold cf; simp [zq_u, e2]
              have e5 : cf hi 3 60 10 = nI W := by unfold cf; simp [zq_u, w4]
              have e6 : ∀ i, i < n → cf hi 3 63 (40 * j + i) = hi (2 + 1 + 2 * j) i := fun i hi' => by rw [e3 i hi']; unfold cf; simp [zq_u]
              rw [(chkM (cf hi 3) k (by omega) e5 e4 e6 hbef Q).2, zr179_53]
              simp only [zr179_0, zr179_1, zr179_4, zr179_7, zr179_8, zr179_9, zr179_10, zr179_13, zr179_16, zr179_18, zr179_19, zr179_20, zr179_23, zr179_24, zr179_25, zr179_28, zr179_29, zr179_30, zr179_33, zr179_34, zr179_35, zr179_38, zr179_39, zr179_40, zr179_42, zr179_45, zr179_46, zr179_47, zr179_50, zr179_51, zr179_52, zr179_54, zr179_55, zr179_58, zr179_59, zr179_60, zr179_63, zr179_64, zr179_65, zr179_66, zr179_67, zr179_70, zr179_73, zr179_76, zr179_77, zr179_78, zr179_81, zr179_82, zr179_85, zr179_88, zr179_89, zr179_92, zr179_93, zr179_95, zr179_96, zr179_99, zr179_100, zr179_101, zr179_104, zr179_105, zr179_106, zr179_107, zr179_108, zr179_111, zr179_114, zr179_117, zr179_118, zr179_119, zr179_120, zr179_121, zr179_124, zr179_127, zr179_130, zr179_133, zr179_134, zr179_137, zr179_138, zr117_0, zr117_1, zr117_4, zr117_6, zr117_7, zr117_8, zr117_9, zr117_10, zr117_11, zs_m0 N, zs_m1 N, zs_m2 N, zh_m0 ca cb cs, zq_kill_int, zq_kill_ref, zq_kill_ret, zq_kill_null, zq_kill_long, zq_rf_some, zq_rf_none, true_and, and_true, true_implies, not_true_eq_false, not_false_eq_true, false_implies, Bool.true_eq_false, Bool.false_eq_true, nI_1, zb_i0, zb_i1, zb_i2, Option.toList_some, Option.toList_none, List.cons_append, List.nil_append, true_or, or_true, implies_true, zb_it, zb_if, zb_10, zb_00, zb_n5, zb_n2, zb_m1, zb_m3, zb_m9, or_true, true_or, or_false, false_or, h1, h2, e4, h3, zb_m40, nI_add, x3, x4, e6 k hk1, k_M_isWay e5 w1, hk2, decide_false, k_M_meet3]
end Z43b
