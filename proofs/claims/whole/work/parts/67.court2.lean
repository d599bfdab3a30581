/-! court -/
section Z67
variable {N ca cb cs d n j W P D : Nat} {hi hi2 H C : zq_I} {hl hl2 : zq_J} {Q : Option Value → zq_G → Prop} {x : Int32} {s : rdT} {w : wyT} {r : Nat}
/-- the class begins anew with a court -/
def ctC (C : zq_I) : zq_I := zq_u (zq_u (zq_u (zc_rs (zq_w (zq_u C 30 1 0) 31 (zf (C 31) 0 0 40)) (rs (fun _ => 0) 0 (fun _ => 0) 0) 0) 24 1 (-1)) 26 1 (-1)) 28 1 (-1)
theorem ctC_o {a : Nat} (h : a < 24 ∨ a = 25 ∨ a = 27 ∨ a = 29 ∨ 34 < a) : ctC C a = C a := by
  unfold ctC
  rw [zq_u_ne (by omega), zq_u_ne (by omega), zq_u_ne (by omega), zc_rs_o (by omega), zq_w_ne (by omega), zq_u_ne (by omega)]
theorem k_EF_court_take {v1 : Int32} {v2 v3 v4 : Value} (hcb : cb = 36 ∨ cb = 45) (h10 : C cb 10 = nI W) : zq_P (d + 2) 39 44 [.ref 0, .int v1, v2, v3, v4] [] (zq_SG N, C, hl, zq_HR ca cb cs) Q = Q (some (.int (nI W))) (zq_SG N, ctC C, hl, zq_HR cb ca cs) := by
  have hk := zq_Ss_kept (N := N) (ca := cb) (cb := ca) (cs := cs)
  have k0 := (hk.2 0 (by omega)).2
  have k1 := (hk.2 1 (by omega)).2
  have k2 := (hk.2 2 (by omega)).2
  have hc := zq_Ct_ok (N := N) (ca := cb) (cb := ca) (cs := cs) hcb
  have b0 : zq_iS (zq_SG N) 24 3 ∧ zq_vS (zq_SG N) 24 3 := k0.1
  have b1 : zq_iS (zq_SG N) 26 3 ∧ zq_vS (zq_SG N) 26 3 := k1.1
  have b2 : zq_iS (zq_SG N) 28 3 ∧ zq_vS (zq_SG N) 28 3 := k2.1
  have x0 : zq_xS (0 : Int32) 3 := zb_x (k := 0) (n := 3) (by omega) (by omega)
  have x1 : zq_xS (1 : Int32) 3 := zb_x (k := 1) (n := 3) (by omega) (by omega)
  have x2 : zq_xS (2 : Int32) 3 := zb_x (k := 2) (n := 3) (by omega) (by omega)
  have y0 : (0 : Int32).toNatClampNeg = 0 := rfl
  have y1 : (1 : Int32).toNatClampNeg = 1 := rfl
  have y2 : (2 : Int32).toNatClampNeg = 2 := rfl
  have z0 : ((0 : Int32) < 3) = True := eq_true (by decide)
  have z1 : ((1 : Int32) < 3) = True := eq_true (by decide)
  have z2 : ((2 : Int32) < 3) = True := eq_true (by decide)
  have z3 : ((3 : Int32) < 3) = False := eq_false (by decide)
  have s0 : (0 : Int32) + 1 = 1 := by decide
  have s1 : (1 : Int32) + 1 = 2 := by decide
  have s2 : (2 : Int32) + 1 = 3 := by decide
  have e40 : (nI 40 < 0) = False := eq_false (by decide)
  have e31 : zq_u C 30 1 0 31 = C 31 := zq_u_ne (by omega)
  have fl := fun (H : zq_I) Q => k_fill (d := d) (S := zq_SG N) (hi := H) (hl := hl) (hr := zq_HR cb ca cs) (Q := Q) (v := 0) (T := 40) (p := 31) (by simp only [zs_x0 N]) (by simp only [zs_x0 N]) (by simp only [zs_x0 N]) (by omega)
  have bg := fun (H : zq_I) Q => k_Course_begin (N := N) (ca := cb) (cb := ca) (cs := cs) (d := d) (hi := H) (hl := hl) (Q := Q)
  have w10 : ctC C cb 10 = nI W := by rw [ctC_o (by omega)]; exact h10
  unfold ctC at w10 ⊢
  simp only [zr39_0, zr39_1, zr39_4, zr39_5, zr39_8, zr39_8n, zr39_9, zr39_9n, zr39_10, zr39_10n, zr39_13, zr39_14, zr39_15, zr39_15n, zr39_16, zr39_19, zr39_22, zr39_23, zr39_24, zr39_27, zr39_28, zr39_28n, zr39_29, zr39_30, zr39_33, zr39_36, zr39_38, zr39_41, zr39_43, zr39_44, zr39_45, zr39_48, zr39_48n, zr39_49, zr39_50, zr39_51, zr39_54, zr39_57, zr39_58, zr39_58n, zr39_59, zr39_62, zr39_63, zr39_66, zr39_67, zr39_68, zr39_71, zr39_72, zr39_75, zr39_78, zr39_79, zr39_81, zr39_83, zr39_84, zr39_87, zr39_88, zr39_91, zr39_93, zr39_94, zr39_97, zr39_100, zr39_103, zr39_104, zr39_107, zr39_110, zr9_0, zr9_1, zr9_4, zr9_5, zr9_6, zr9_9, zr9_10, zr9_13, zr9_14, zr9_15, zr9_16, zr9_19, zr9_20, zr9_23, zr9_24, zr9_27, zr19_0, zr19_1, zr19_2, zr19_5, zs_x0 N, zh_x0 ca cb cs, zh_x0 cb cb cs, zh_x0 cb ca cs, zq_HR_ca, zq_HR_cb, hc.1, b0, b1, b2, zq_kill_int, zq_kill_ref, zq_kill_ret, zq_rf_some, true_and, and_true, true_implies, not_true_eq_false, not_false_eq_true, false_implies, Option.toList_none, Option.toList_some, List.cons_append, List.nil_append, zb_it, zb_if, zb_10, zb_00, zb_n5, zb_n2, zb_m1, zb_m3, zb_m9, or_true, true_or, or_false, false_or, x0, x1, x2, y0, y1, y2, z0, z1, z2, z3, s0, s1, s2, e40, fl, e31, bg, w10]
theorem Sim.taken (h : Sim hi hl ca cb cs W P D) (o1 : ∀ y, y < cb ∨ cb + 8 < y → C y = hi y) (hr : r ≤ 6) (hs3 : s.1 ≤ 3) (hw0 : 0 < w.1) (hw7 : w.1 ≤ 7) (hpk : pok s) (hwk : wok s.1 w) (c8 : C cb 8 = nI r) (hP : CtP C cb s) (hW : CtW C cb w) {G H : zq_I} (mG : mrf (ctC C) G)
    (g1 : ∀ a, a < 60 ∨ (60 < a ∧ a < 67) ∨ a = 76 ∨ a = 78 → H a = G a) (g2 : ∀ g, g < 10 → H 60 g = G 60 g) (g3 : H 60 10 = nI w.1 ∧ H 60 11 = nI r ∧ H 60 12 = nI s.1 ∧ H 60 25 = 0 ∧ H 60 26 = 0 ∧ H 60 27 = 0 ∧ H 60 30 = 0) (g4 : ∀ k, k < s.1 → H 67 k = nI (s.2.1 k) ∧ H 68 k = nI (s.2.2 k)) (g5 : ∀ v, v < w.1 → H 69 v = nI (w.2.1 v) ∧ H 70 v = nI (w.2.2.1 v) ∧ H 71 v = nI (w.2.2.2 v) ∧ H 74 v = (-9) ∧ H 75 v = 0) (g6 : ∀ k, k < 3 → H 77 k = 0) : Sim H hl cb ca cs w.1 s.1 0 := by
  have hcb := h.spare
  have hca := h.court
  obtain ⟨h1, h2, h3, h4, h5, -, -⟩ := h
  -- what stays
  have lo : ∀ a, a < 60 → H a = ctC C a := fun a ha => by rw [g1 a (by omega), mG.1 a (by omega) (by omega) (by omega)]
  have lo2 : ∀ a, a < 24 ∨ a = 35 → H a = hi a := fun a ha => by rw [lo a (by omega), ctC_o (by omega), o1 a (by omega)]
  have hi6 : ∀ a, 60 < a → a < 67 → H a = hi a := fun a a1 a2 => by rw [g1 a (by omega), mG.1 a (by omega) (by omega) (by omega), ctC_o (by omega), o1 a (by omega)]
  have h60 : ∀ g, g < 10 → H 60 g = hi 60 g := fun g hg => by rw [g2 g hg, mG.2 g (by omega), ctC_o (by omega), o1 60 (by omega)]
  have lc : ∀ a, cb ≤ a → a ≤ cb + 8 → H a = C a := fun a a1 a2 => by rw [lo a (by omega), ctC_o (by omega)]
  refine ⟨by omega, h2, ?_, ?_, ?_, ?_, ?_⟩
  · obtain ⟨t1, t2, t3, t4, t5⟩ := h3
    refine ⟨?_, t2, t3, ?_, fun f hf => ?_⟩
    · rw [lo2 0 (by omega), h60 2 (by omega)]; exact t1
    · rw [lo2 0 (by omega), h60 0 (by omega)]; exact t4
    · rw [lo2 35 (by omega), hi6 61 (by omega) (by omega)]; exact t5 f hf
  · exact sm_st_fr h4 (fun r hr => ⟨by rw [lo2 _ (by omega)], lo2 _ (by omega)⟩) (hi6 _ (by omega) (by omega)) (hi6 _ (by omega) (by omega))
  · exact sm_st_fr h5 (fun r hr => ⟨by rw [lo2 _ (by omega)], lo2 _ (by omega)⟩) (hi6 _ (by omega) (by omega)) (hi6 _ (by omega) (by omega))
  · refine ⟨⟨hw7, hs3, ?_, g3.1, ?_, g3.2.2.1, ?_, r, hr, g3.2.1⟩, fun k hk => ?_, fun v hv => ?_⟩
    · rw [lc cb (by omega) (by omega)]; exact hW.1
    · rw [lc cb (by omega) (by omega)]; exact hP.1
    · rw [lc cb (by omega) (by omega), c8, g3.2.1]
    · obtain ⟨a1, a2⟩ := hP.2 k hk
      obtain ⟨b1, b2⟩ := g4 k hk
      rw [lc (cb + 1) (by omega) (by omega), lc (cb + 2) (by omega) (by omega), a1, a2, b1, b2]
      exact ⟨rfl, rfl, s.2.1 k, (hpk k hk).1, (hpk k hk).2, rfl⟩
    · obtain ⟨a1, a2, a3, a4, a5, a6⟩ := hW.2 v hv
      obtain ⟨b1, b2, b3, -, -⟩ := g5 v hv
      obtain ⟨k1, k2, k3⟩ := hwk v hv
      unfold zm_tr zm_needs zm_rest
      rw [lc (cb + 3) (by omega) (by omega), lc (cb + 4) (by omega) (by omega), lc (cb + 5) (by omega) (by omega), lc (cb + 6) (by omega) (by omega), lc (cb + 7) (by omega) (by omega), lc (cb + 8) (by omega) (by omega), a1, a2, a3, a4, a5, a6, b1, b2, b3, c8, g3.2.1]
      exact ⟨rfl, rfl, rfl, rfl, rfl, rfl, ⟨_, k1, rfl⟩, ⟨_, k2, rfl⟩, ⟨_, k3, rfl⟩⟩
  · have e32 : ∀ f, H 32 f = if f = 2 then nI 0 else if f = 3 then -1 else if f = 4 then 0 else if f = 5 then 0 else C 32 f := fun f => by
      rw [lo 32 (by omega)]
      unfold ctC
      rw [zq_u_ne (by omega), zq_u_ne (by omega), zq_u_ne (by omega), zc_rs_32, zq_w_ne (by omega), zq_u_ne (by omega)]
      rfl
    have e33 : ∀ v, v < 7 → H 33 v = -9 := fun v hv => by
      rw [lo 33 (by omega)]
      unfold ctC
      rw [zq_u_ne (by omega), zq_u_ne (by omega), zq_u_ne (by omega), zc_rs_33]
      dsimp only
      rw [if_pos hv]
      rfl
    have e34 : ∀ v, v < 7 → H 34 v = 0 := fun v hv => by
      rw [lo 34 (by omega)]
      unfold ctC
      rw [zq_u_ne (by omega), zq_u_ne (by omega), zq_u_ne (by omega), zc_rs_34]
      dsimp only
      rw [if_pos hv]
      rfl
    have e30 : H 30 1 = nI 0 := by
      rw [lo 30 (by omega)]
      unfold ctC
      rw [zq_u_ne (by omega), zq_u_ne (by omega), zq_u_ne (by omega), zc_rs_o (by omega), zq_w_ne (by omega), zq_u_eq]
      rfl
    have kp : ∀ k, k < 3 → H (24 + 2 * k) 1 = -1 := fun k hk => by
      rw [lo _ (by omega)]
      unfold ctC
      by_cases q2 : k = 2
      · subst q2; exact zq_u_eq
      · rw [zq_u_ne (by omega)]
        by_cases q1 : k = 1
        · subst q1; exact zq_u_eq
        · rw [zq_u_ne (by omega)]
          have q0 : k = 0 := by omega
          subst q0
          exact zq_u_eq
    refine ⟨⟨by omega, fun _ => rfl, e30, ?_, ?_, ?_⟩, fun i hi' => absurd hi' (Nat.not_lt_zero _), ⟨?_, ?_, ?_, fun v hv => ⟨e33 v (by omega), e34 v (by omega)⟩⟩, ⟨g3.2.2.2.2.1, g3.2.2.2.2.2.1, fun v hv => (g5 v hv).2.2.2⟩, fun i hi' => absurd hi' (Nat.not_lt_zero _), fun k hk => Or.inl ⟨kp k hk, g6 k hk⟩⟩
    · rw [g3.2.2.2.2.2.2]; rfl
    · rw [e32, if_pos rfl]
    · rw [g3.2.2.2.1]; rfl
    · rw [e32, if_neg (by omega), if_neg (by omega), if_pos rfl]; rfl
    · rw [e32, if_neg (by omega), if_neg (by omega), if_neg (by omega), if_pos rfl]; rfl
    · rw [e32, if_neg (by omega), if_pos rfl]; rfl
end Z67
section Z67b
variable {N : Nat} {x : Int32}
theorem p_court : zq_pair N 39 137 [.ref 0, .int x, .retAddr 0, .retAddr 0, .retAddr 0] [.ref 60, .int x, .retAddr 0, .retAddr 0] := by
  intro hi hl ca cb cs W P D h
  have hs := zq_Ss_texts (N := N) (ca := ca) (cb := cb) (cs := cs)
  rcases zb_ix x 4 (by omega) with hx | ⟨j, hj, rfl⟩
  · refine ⟨.int (-1), hi, hl, ca, cb, cs, hi, hl, W, P, D, fun Q => ?_, fun Q => ?_, h⟩
    · simp only [zr39_0, zr39_1, zr39_4, zr39_5, zr39_8, zr39_8n, zr39_9, zr39_9n, zr39_10, zr39_10n, zr39_13, zr39_14, zr39_15, zr39_15n, zr39_16, zr39_19, zr39_22, zr39_23, zr39_24, zr39_27, zr39_28, zr39_28n, zr39_29, zr39_30, zr39_33, zr39_36, zr39_38, zr39_41, zr39_43, zr39_45, zr39_48, zr39_48n, zr39_49, zr39_50, zr39_51, zr39_54, zr39_57, zr39_58, zr39_58n, zr39_59, zr39_62, zr39_63, zr39_66, zr39_67, zr39_68, zr39_71, zr39_72, zr39_75, zr39_78, zr39_79, zr39_83, zr39_84, zr39_87, zr39_88, zr39_91, zr39_93, zr39_94, zr39_97, zr39_100, zr39_103, zr39_104, zr39_107, zr39_110, zs_x0 N, zh_x0 ca cb cs, zq_kill_int, zq_kill_ref, zq_kill_ret, zq_kill_null, zq_kill_long, zq_rf_some, zq_rf_none, true_and, and_true, true_implies, not_true_eq_false, not_false_eq_true, false_implies, Bool.true_eq_false, Bool.false_eq_true, nI_1, zb_i0, zb_i1, zb_i2, Option.toList_some, Option.toList_none, List.cons_append, List.nil_append, true_or, or_true, implies_true, zb_it, zb_if, zb_10, zb_00, zb_n5, zb_n2, zb_m1, zb_m3, zb_m9, or_true, true_or, or_false, false_or, k_EF_stripAt_bad hs hx]
    · simp only [zr137_0, zr137_1, zr137_2, zr137_5, zr137_6, zr137_7, zr137_10, zr137_11, zr137_12, zr137_13, zr137_14, zr137_17, zr137_19, zr137_22, zr137_24, zr137_26, zr137_27, zr137_30, zr137_33, zr137_34, zr137_35, zr137_38, zr137_41, zr137_42, zr137_43, zr137_46, zr137_49, zr137_50, zr137_51, zr137_52, zr137_53, zr137_56, zr137_59, zr137_60, zr137_63, zr137_64, zr137_65, zr137_68, zr137_69, zr137_70, zr137_71, zr137_72, zr137_73, zr137_74, zr137_77, zr137_78, zr137_79, zr137_82, zr137_83, zr137_84, zr137_85, zr137_86, zr137_87, zr137_88, zr137_89, zr137_92, zr137_95, zr137_96, zr137_97, zr137_98, zr137_99, zr137_102, zr137_105, zr137_106, zr137_109, zr137_110, zr137_111, zr137_114, zr137_115, zr137_116, zr137_117, zr137_118, zr137_119, zr137_120, zr137_123, zr137_124, zr137_125, zr137_128, zr137_129, zr137_130, zr137_131, zr137_132, zr137_133, zr137_134, zr137_135, zr137_136, zr137_139, zr137_140, zr137_141, zr137_144, zr137_145, zr137_146, zr137_147, zr137_148, zr137_149, zr137_150, zr137_151, zr137_152, zr137_155, zr137_156, zr137_158, zr137_159, zr137_160, zr137_163, zr137_164, zr137_165, zr137_166, zr137_169, zr137_172, zr137_173, zr137_174, zr137_177, zr137_178, zr137_179, zr137_182, zr137_183, zr137_184, zr137_187, zr137_188, zr137_189, zr137_192, zr137_193, zr137_194, zr137_195, zr137_196, zr137_199, zr137_200, zr137_203, zr137_204, zr137_205, zr137_206, zr137_209, zr137_212, zr137_213, zr137_216, zr126_0, zr126_1, zr126_4, zr126_7, zr126_8, zr126_11, zr126_12, zr126_15, zr126_16, zr126_17, zr126_20, zr126_21, zr126_22, zr126_25, zr126_28, zr126_29, zr124_0, zr124_1, zr124_2, zr124_3, zr124_6, zs_m0 N, zs_m1 N, zs_m2 N, zh_m0 ca cb cs, zq_kill_int, zq_kill_ref, zq_kill_ret, zq_kill_null, zq_kill_long, zq_rf_some, zq_rf_none, true_and, and_true, true_implies, not_true_eq_false, not_false_eq_true, false_implies, Bool.true_eq_false, Bool.false_eq_true, nI_1, zb_i0, zb_i1, zb_i2, Option.toList_some, Option.toList_none, List.cons_append, List.nil_append, true_or, or_true, implies_true, zb_it, zb_if, zb_10, zb_00, zb_n5, zb_n2, zb_m1, zb_m3, zb_m9, or_true, true_or, or_false, false_or, k_M_in, zm_in_bad (M1 := 3) hx (by decide) (by omega)]
  · have hin := zm_in_ok (M1 := 3) hj (by decide) (by omega)
    have hsp := (hs.2 j hj).2
    unfold zq_Sp at hsp
    have h1 : zq_xS (nI j) 4 := zb_x (by omega) (by omega)
    have h2 : (nI j).toNatClampNeg = j := zb_cl (by omega)
    rcases h.2.2.2.2.1 j hj with ⟨e1, e2⟩ | ⟨n, hn, e1, e2, e3⟩
    · refine ⟨.int (-3), cf hi 1, hl, ca, cb, cs, mf (cf hi 1) 1, hl, W, P, D, fun Q => ?_, fun Q => ?_, h.meet (by omega)⟩
      · simp only [zr39_0, zr39_1, zr39_4, zr39_5, zr39_8, zr39_8n, zr39_9, zr39_9n, zr39_10, zr39_10n, zr39_13, zr39_14, zr39_15, zr39_15n, zr39_16, zr39_19, zr39_22, zr39_23, zr39_24, zr39_27, zr39_28, zr39_28n, zr39_29, zr39_30, zr39_33, zr39_36, zr39_38, zr39_41, zr39_43, zr39_45, zr39_48, zr39_48n, zr39_49, zr39_50, zr39_51, zr39_54, zr39_57, zr39_58, zr39_58n, zr39_59, zr39_62, zr39_63, zr39_66, zr39_67, zr39_68, zr39_71, zr39_72, zr39_75, zr39_78, zr39_79, zr39_83, zr39_84, zr39_87, zr39_88, zr39_91, zr39_93, zr39_94, zr39_97, zr39_100, zr39_103, zr39_104, zr39_107, zr39_110, zr15_0, zr15_1, zr15_4, zr15_7, zr15_8, zr15_11, zr15_12, zs_x0 N, zh_x0 ca cb cs, hsp, zq_kill_int, zq_kill_ref, zq_kill_ret, zq_kill_null, zq_kill_long, zq_rf_some, zq_rf_none, true_and, and_true, true_implies, not_true_eq_false, not_false_eq_true, false_implies, Bool.true_eq_false, Bool.false_eq_true, nI_1, zb_i0, zb_i1, zb_i2, Option.toList_some, Option.toList_none, List.cons_append, List.nil_append, true_or, or_true, implies_true, zb_it, zb_if, zb_10, zb_00, zb_n5, zb_n2, zb_m1, zb_m3, zb_m9, or_true, true_or, or_false, false_or, k_EF_stripAt hs (show 4 ≤ 6 by omega) hj, e1, k_EF_found1]
      · have e4 : cf hi 1 65 j = -9 := by unfold cf; simp [zq_u, e2]
        simp only [zr137_0, zr137_1, zr137_2, zr137_5, zr137_6, zr137_7, zr137_10, zr137_11, zr137_12, zr137_13, zr137_14, zr137_17, zr137_19, zr137_22, zr137_24, zr137_26, zr137_27, zr137_30, zr137_33, zr137_34, zr137_35, zr137_38, zr137_41, zr137_42, zr137_43, zr137_46, zr137_49, zr137_50, zr137_51, zr137_52, zr137_53, zr137_56, zr137_59, zr137_60, zr137_63, zr137_64, zr137_65, zr137_68, zr137_69, zr137_70, zr137_71, zr137_72, zr137_73, zr137_74, zr137_77, zr137_78, zr137_79, zr137_82, zr137_83, zr137_84, zr137_85, zr137_86, zr137_87, zr137_88, zr137_89, zr137_92, zr137_95, zr137_96, zr137_97, zr137_98, zr137_99, zr137_102, zr137_105, zr137_106, zr137_109, zr137_110, zr137_111, zr137_114, zr137_115, zr137_116, zr137_117, zr137_118, zr137_119, zr137_120, zr137_123, zr137_124, zr137_125, zr137_128, zr137_129, zr137_130, zr137_131, zr137_132, zr137_133, zr137_134, zr137_135, zr137_136, zr137_139, zr137_140, zr137_141, zr137_144, zr137_145, zr137_146, zr137_147, zr137_148, zr137_149, zr137_150, zr137_151, zr137_152, zr137_155, zr137_156, zr137_158, zr137_159, zr137_160, zr137_163, zr137_164, zr137_165, zr137_166, zr137_169, zr137_172, zr137_173, zr137_174, zr137_177, zr137_178, zr137_179, zr137_182, zr137_183, zr137_184, zr137_187, zr137_188, zr137_189, zr137_192, zr137_193, zr137_194, zr137_195, zr137_196, zr137_199, zr137_200, zr137_203, zr137_204, zr137_205, zr137_206, zr137_209, zr137_212, zr137_213, zr137_216, zr126_0, zr126_1, zr126_4, zr126_7, zr126_8, zr126_11, zr126_12, zr126_15, zr126_16, zr126_17, zr126_20, zr126_21, zr126_22, zr126_25, zr126_28, zr126_29, zr124_0, zr124_1, zr124_2, zr124_3, zr124_6, zs_m0 N, zs_m1 N, zs_m2 N, zh_m0 ca cb cs, zq_kill_int, zq_kill_ref, zq_kill_ret, zq_kill_null, zq_kill_long, zq_rf_some, zq_rf_none, true_and, and_true, true_implies, not_true_eq_false, not_false_eq_true, false_implies, Bool.true_eq_false, Bool.false_eq_true, nI_1, zb_i0, zb_i1, zb_i2, Option.toList_some, Option.toList_none, List.cons_append, List.nil_append, true_or, or_true, implies_true, zb_it, zb_if, zb_10, zb_00, zb_n5, zb_n2, zb_m1, zb_m3, zb_m9, or_true, true_or, or_false, false_or, k_M_in, hin, h1, h2, e4, k_M_meet1]
    · have q1 : (nI n < 0) = False := eq_false (nI_pos (by omega))
      have hcb := h.spare
      obtain ⟨C, o1, alt⟩ := k_Reader_readCourt (N := N) (ca := ca) (cb := cb) (cs := cs) (d := 52) (hl := hl) hcb hj hn e1 rfl
      have ht := txt_of h hj o1 e2 e3
      rw [show 52 + 5 = 57 from rfl] at alt
      rcases alt with ⟨q, a1, a0, a2⟩ | ⟨r, s, w, a1, r6, s3, w0, w7, pk, wk, c8, hP, hW, a2⟩
      · obtain ⟨H, mH, alt2⟩ := k_M_goesOn (N := N) (ca := ca) (cb := cb) (cs := cs) (d := 52) (hl := hl) hj hn ht
        have e5 : C 65 j = nI n := ht.1
        rw [show 52 + 5 = 57 from rfl] at alt2
        rcases alt2 with ⟨q', b1, b2⟩ | ⟨r', s', w', b1, -⟩
        · rw [a1] at b1
          have eq : q = q' := Sum.inl.inj b1
          subst eq
          have n9 := nI_n9 (a := q) a0
          refine ⟨.int (-4), C, hl, ca, cb, cs, H, hl, W, P, D, fun Q => ?_, fun Q => ?_, h.read o1 mH⟩
          · simp only [zr39_0, zr39_1, zr39_4, zr39_5, zr39_8, zr39_8n, zr39_9, zr39_9n, zr39_10, zr39_10n, zr39_13, zr39_14, zr39_15, zr39_15n, zr39_16, zr39_19, zr39_22, zr39_23, zr39_24, zr39_27, zr39_28, zr39_28n, zr39_29, zr39_30, zr39_33, zr39_36, zr39_38, zr39_41, zr39_43, zr39_45, zr39_48, zr39_48n, zr39_49, zr39_50, zr39_51, zr39_54, zr39_57, zr39_58, zr39_58n, zr39_59, zr39_62, zr39_63, zr39_66, zr39_67, zr39_68, zr39_71, zr39_72, zr39_75, zr39_78, zr39_79, zr39_83, zr39_84, zr39_87, zr39_88, zr39_91, zr39_93, zr39_94, zr39_97, zr39_100, zr39_103, zr39_104, zr39_107, zr39_110, zr15_0, zr15_1, zr15_4, zr15_7, zr15_8, zr15_11, zr15_12, zs_x0 N, zh_x0 ca cb cs, hsp, zq_kill_int, zq_kill_ref, zq_kill_ret, zq_kill_null, zq_kill_long, zq_rf_some, zq_rf_none, true_and, and_true, true_implies, not_true_eq_false, not_false_eq_true, false_implies, Bool.true_eq_false, Bool.false_eq_true, nI_1, zb_i0, zb_i1, zb_i2, Option.toList_some, Option.toList_none, List.cons_append, List.nil_append, true_or, or_true, implies_true, zb_it, zb_if, zb_10, zb_00, zb_n5, zb_n2, zb_m1, zb_m3, zb_m9, or_true, true_or, or_false, false_or, k_EF_stripAt hs (show 4 ≤ 6 by omega) hj, e1, q1, a2, n9]
          · simp only [zr137_0, zr137_1, zr137_2, zr137_5, zr137_6, zr137_7, zr137_10, zr137_11, zr137_12, zr137_13, zr137_14, zr137_17, zr137_19, zr137_22, zr137_24, zr137_26, zr137_27, zr137_30, zr137_33, zr137_34, zr137_35, zr137_38, zr137_41, zr137_42, zr137_43, zr137_46, zr137_49, zr137_50, zr137_51, zr137_52, zr137_53, zr137_56, zr137_59, zr137_60, zr137_63, zr137_64, zr137_65, zr137_68, zr137_69, zr137_70, zr137_71, zr137_72, zr137_73, zr137_74, zr137_77, zr137_78, zr137_79, zr137_82, zr137_83, zr137_84, zr137_85, zr137_86, zr137_87, zr137_88, zr137_89, zr137_92, zr137_95, zr137_96, zr137_97, zr137_98, zr137_99, zr137_102, zr137_105, zr137_106, zr137_109, zr137_110, zr137_111, zr137_114, zr137_115, zr137_116, zr137_117, zr137_118, zr137_119, zr137_120, zr137_123, zr137_124, zr137_125, zr137_128, zr137_129, zr137_130, zr137_131, zr137_132, zr137_133, zr137_134, zr137_135, zr137_136, zr137_139, zr137_140, zr137_141, zr137_144, zr137_145, zr137_146, zr137_147, zr137_148, zr137_149, zr137_150, zr137_151, zr137_152, zr137_155, zr137_156, zr137_158, zr137_159, zr137_160, zr137_163, zr137_164, zr137_165, zr137_166, zr137_169, zr137_172, zr137_173, zr137_174, zr137_177, zr137_178, zr137_179, zr137_182, zr137_183, zr137_184, zr137_187, zr137_188, zr137_189, zr137_192, zr137_193, zr137_194, zr137_195, zr137_196, zr137_199, zr137_200, zr137_203, zr137_204, zr137_205, zr137_206, zr137_209, zr137_212, zr137_213, zr137_216, zr126_0, zr126_1, zr126_4, zr126_7, zr126_8, zr126_11, zr126_12, zr126_15, zr126_16, zr126_17, zr126_20, zr126_21, zr126_22, zr126_25, zr126_28, zr126_29, zr124_0, zr124_1, zr124_2, zr124_3, zr124_6, zs_m0 N, zs_m1 N, zs_m2 N, zh_m0 ca cb cs, zq_kill_int, zq_kill_ref, zq_kill_ret, zq_kill_null, zq_kill_long, zq_rf_some, zq_rf_none, true_and, and_true, true_implies, not_true_eq_false, not_false_eq_true, false_implies, Bool.true_eq_false, Bool.false_eq_true, nI_1, zb_i0, zb_i1, zb_i2, Option.toList_some, Option.toList_none, List.cons_append, List.nil_append, true_or, or_true, implies_true, zb_it, zb_if, zb_10, zb_00, zb_n5, zb_n2, zb_m1, zb_m3, zb_m9, or_true, true_or, or_false, false_or, k_M_in, hin, h1, h2, e5, q1, b2, n9]
        · rw [a1] at b1; cases b1
      · have ht2 : txt (ctC C) (hi (15 + 1 + 2 * j)) n j := by
          refine ⟨by rw [ctC_o (by omega)]; exact ht.1, fun i hi' => by rw [ctC_o (by omega)]; exact ht.2 i hi'⟩
        obtain ⟨H, mH, alt2⟩ := k_M_goesOn (N := N) (ca := cb) (cb := ca) (cs := cs) (d := 52) (hl := hl) hj hn ht2
        have e5 : ctC C 65 j = nI n := ht2.1
        rw [show 52 + 5 = 57 from rfl] at alt2
        rcases alt2 with ⟨q', b1, b2⟩ | ⟨r', s', w', b1, b19, bP, bW, b2⟩
        · rw [a1] at b1; cases b1
        · rw [a1] at b1
          have eq := Sum.inr.inj b1
          obtain ⟨er, es, ew⟩ : r = r' ∧ s = s' ∧ w = w' := ⟨congrArg (fun t => t.1) eq, congrArg (fun t => t.2.1) eq, congrArg (fun t => t.2.2) eq⟩
          subst er; subst es; subst ew
          obtain ⟨H2, g1, g2, g3, g4, g5, g6, g7⟩ := k_M_court_take (N := N) (ca := cb) (cb := ca) (cs := cs) (d := 57) (hl := hl) (v1 := nI j) (v2 := 0) (v3 := .retAddr 0) s3 w7 b19 bP bW
          have tk := fun (v2 v3 v4 : Value) Q => k_EF_court_take (N := N) (ca := ca) (cb := cb) (cs := cs) (d := 56) (hl := hl) (Q := Q) (v1 := nI j) (v2 := v2) (v3 := v3) (v4 := v4) hcb hW.1
          rw [show 57 + 1 = 58 from rfl] at g7
          rw [show 56 + 2 = 58 from rfl] at tk
          refine ⟨.int (nI w.1), ctC C, hl, cb, ca, cs, H2, hl, w.1, s.1, 0, fun Q => ?_, fun Q => ?_, h.taken o1 r6 s3 w0 w7 pk wk c8 hP hW mH g1 g2 g3 g4 g5 g6⟩
          · simp only [zr39_0, zr39_1, zr39_4, zr39_5, zr39_8, zr39_8n, zr39_9, zr39_9n, zr39_10, zr39_10n, zr39_13, zr39_14, zr39_15, zr39_15n, zr39_16, zr39_19, zr39_22, zr39_23, zr39_24, zr39_27, zr39_28, zr39_28n, zr39_29, zr39_30, zr39_33, zr39_36, zr39_38, zr39_41, zr39_43, zr39_45, zr39_48, zr39_48n, zr39_49, zr39_50, zr39_51, zr39_54, zr39_57, zr39_58, zr39_58n, zr39_59, zr39_62, zr39_63, zr39_66, zr39_67, zr39_68, zr39_71, zr39_72, zr39_75, zr39_78, zr39_79, zr39_83, zr39_84, zr39_87, zr39_88, zr39_91, zr39_93, zr39_94, zr39_97, zr39_100, zr39_103, zr39_104, zr39_107, zr39_110, zr15_0, zr15_1, zr15_4, zr15_7, zr15_8, zr15_11, zr15_12, zs_x0 N, zh_x0 ca cb cs, hsp, zq_kill_int, zq_kill_ref, zq_kill_ret, zq_kill_null, zq_kill_long, zq_rf_some, zq_rf_none, true_and, and_true, true_implies, not_true_eq_false, not_false_eq_true, false_implies, Bool.true_eq_false, Bool.false_eq_true, nI_1, zb_i0, zb_i1, zb_i2, Option.toList_some, Option.toList_none, List.cons_append, List.nil_append, true_or, or_true, implies_true, zb_it, zb_if, zb_10, zb_00, zb_n5, zb_n2, zb_m1, zb_m3, zb_m9, or_true, true_or, or_false, false_or, k_EF_stripAt hs (show 4 ≤ 6 by omega) hj, e1, q1, a2, tk]
          · simp only [zr137_0, zr137_1, zr137_2, zr137_5, zr137_6, zr137_7, zr137_10, zr137_11, zr137_12, zr137_13, zr137_14, zr137_17, zr137_19, zr137_22, zr137_24, zr137_26, zr137_27, zr137_30, zr137_33, zr137_34, zr137_35, zr137_38, zr137_41, zr137_42, zr137_43, zr137_46, zr137_49, zr137_50, zr137_52, zr137_53, zr137_56, zr137_59, zr137_60, zr137_63, zr137_64, zr137_65, zr137_68, zr137_69, zr137_70, zr137_71, zr137_72, zr137_73, zr137_74, zr137_77, zr137_78, zr137_79, zr137_82, zr137_83, zr137_84, zr137_85, zr137_86, zr137_87, zr137_88, zr137_89, zr137_92, zr137_95, zr137_96, zr137_98, zr137_99, zr137_102, zr137_105, zr137_106, zr137_109, zr137_110, zr137_111, zr137_114, zr137_115, zr137_116, zr137_117, zr137_118, zr137_119, zr137_120, zr137_123, zr137_124, zr137_125, zr137_128, zr137_129, zr137_130, zr137_131, zr137_132, zr137_133, zr137_134, zr137_135, zr137_136, zr137_139, zr137_140, zr137_141, zr137_144, zr137_145, zr137_146, zr137_147, zr137_148, zr137_149, zr137_150, zr137_151, zr137_152, zr137_155, zr137_156, zr137_158, zr137_159, zr137_160, zr137_163, zr137_164, zr137_165, zr137_166, zr137_169, zr137_172, zr137_173, zr137_174, zr137_177, zr137_178, zr137_179, zr137_182, zr137_183, zr137_184, zr137_187, zr137_188, zr137_189, zr137_192, zr137_193, zr137_195, zr137_196, zr137_199, zr137_200, zr137_203, zr137_204, zr137_205, zr137_206, zr137_209, zr137_212, zr137_213, zr137_216, zr126_0, zr126_1, zr126_4, zr126_7, zr126_8, zr126_11, zr126_12, zr126_15, zr126_16, zr126_17, zr126_20, zr126_21, zr126_22, zr126_25, zr126_28, zr126_29, zr124_0, zr124_1, zr124_2, zr124_3, zr124_6, zs_m0 N, zs_m1 N, zs_m2 N, zh_m0 cb ca cs, zq_kill_int, zq_kill_ref, zq_kill_ret, zq_kill_null, zq_kill_long, zq_rf_some, zq_rf_none, true_and, and_true, true_implies, not_true_eq_false, not_false_eq_true, false_implies, Bool.true_eq_false, Bool.false_eq_true, nI_1, zb_i0, zb_i1, zb_i2, Option.toList_some, Option.toList_none, List.cons_append, List.nil_append, true_or, or_true, implies_true, zb_it, zb_if, zb_10, zb_00, zb_n5, zb_n2, zb_m1, zb_m3, zb_m9, or_true, true_or, or_false, false_or, k_M_in, hin, h1, h2, e5, q1, b2, g7]
end Z67b
