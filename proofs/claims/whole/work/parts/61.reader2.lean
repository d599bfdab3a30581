/-! The class reads a court -/
def CtP (C : zq_I) (c : Nat) (s : rdT) : Prop := C c 9 = nI s.1 ∧ ∀ k, k < s.1 → C (c + 1) k = nI (s.2.1 k) ∧ C (c + 2) k = nI (s.2.2 k)
def rsk (k r : Int32) : Int32 := if zm_mime k = true then r / 2 else r
def CtW (C : zq_I) (c : Nat) (s : wyT) : Prop := C c 10 = nI s.1 ∧ ∀ w, w < s.1 → C (c + 3) w = nI (s.2.1 w) ∧ C (c + 4) w = nI (s.2.2.1 w) ∧ C (c + 5) w = nI (s.2.2.2 w) ∧ C (c + 6) w = zm_tb (nI (s.2.1 w)) (nI (s.2.2.1 w)) ∧ C (c + 7) w = zm_nb (nI (s.2.1 w)) (nI (s.2.2.2 w)) ∧ C (c + 8) w = rsk (nI (s.2.1 w)) (C c 8)
theorem zc_mime (k : Int32) : zc_kindIs k 2 = zm_mime k := by
  unfold zc_kindIs zm_mime
  simp
def upd1 (g : Nat → Int32) (k : Nat) (v : Int32) : Nat → Int32 := fun j => if j = k then v else g j
section Z61
variable {N ca cb cs c j d n i h W P : Nat} {C C2 : zq_I} {f : Nat → Int32} {hl : zq_J} {S : zq_S} {hr : zq_O} {Q : Option Value → zq_G → Prop} {x z u : Int32}
theorem k_Court_addPerson (hc : zq_Ct S hr c) (hp : C c 9 = nI P) (hP : P < 3) : zq_P d 31 0 [.ref c, .int x, .int z] [] (S, C, hl, hr) Q = Q none (S, zq_u (zq_u (zq_u C (c + 1) P x) (c + 2) P z) c 9 (nI (P + 1)), hl, hr) := by
  unfold zq_Ct at hc
  have h3 : (nI P < 3) = True := eq_true ((nI_ltI (b := 3) (by omega) (by omega)).mpr hP)
  have x1 : zq_xS (nI P) 3 := zb_x (by omega) (by omega)
  have x2 : (nI P).toNatClampNeg = P := zb_cl (by omega)
  have g1 : ∀ v, zq_u C (c + 1) P v c = C c := fun v => zq_u_ne (by omega)
  have g2 : ∀ v v2, zq_u (zq_u C (c + 1) P v) (c + 2) P v2 c = C c := fun v v2 => by rw [zq_u_ne (by omega), zq_u_ne (by omega)]
  simp only [zr31_0, zr31_1, zr31_4, zr31_5, zr31_8, zr31_9, zr31_10, zr31_13, zr31_14, zr31_17, zr31_18, zr31_19, zr31_20, zr31_23, zr31_24, zr31_27, zr31_28, zr31_29, zr31_30, zr31_31, zr31_34, zr31_35, zr31_36, zr31_39, hc, zq_kill_int, zq_kill_ref, zq_kill_ret, zq_kill_null, zq_kill_long, zq_rf_some, zq_rf_none, true_and, and_true, true_implies, not_true_eq_false, not_false_eq_true, false_implies, Bool.true_eq_false, Bool.false_eq_true, nI_1, zb_i0, zb_i1, zb_i2, Option.toList_some, Option.toList_none, List.cons_append, List.nil_append, true_or, or_true, implies_true, zb_it, zb_if, zb_10, zb_00, zb_n5, zb_n2, zb_m1, zb_m3, zb_m9, or_true, true_or, or_false, false_or, hp, h3, x1, x2, g1, g2]
theorem k_Court_addWay (hc : zq_Ct S hr c) (hp : C c 10 = nI W) (hW : W < 7) : zq_P (d + 2) 35 0 [.ref c, .int x, .int z, .int u] [] (S, C, hl, hr) Q = Q none (S, zq_u (zq_u (zq_u (zq_u (zq_u (zq_u (zq_u C (c + 3) W x) (c + 4) W z) (c + 5) W u) (c + 6) W (zm_tb x z)) (c + 7) W (zm_nb x u)) (c + 8) W (rsk x (C c 8))) c 10 (nI (W + 1)), hl, hr) := by
  unfold zq_Ct at hc
  have h3 : (nI W < 7) = True := eq_true ((nI_ltI (b := 7) (by omega) (by omega)).mpr hW)
  have x1 : zq_xS (nI W) 7 := zb_x (by omega) (by omega)
  have x2 : (nI W).toNatClampNeg = W := zb_cl (by omega)
  have g1 : ∀ v, zq_u C (c + 3) W v c = C c := fun v => zq_u_ne (by omega)
  have g2 : ∀ v v2, zq_u (zq_u C (c + 3) W v) (c + 4) W v2 c = C c := fun v v2 => by rw [zq_u_ne (by omega), zq_u_ne (by omega)]
  have g3 : ∀ v v2 v3, zq_u (zq_u (zq_u C (c + 3) W v) (c + 4) W v2) (c + 5) W v3 c = C c := fun v v2 v3 => by rw [zq_u_ne (by omega), zq_u_ne (by omega), zq_u_ne (by omega)]
  have g4 : ∀ v v2 v3 v4, zq_u (zq_u (zq_u (zq_u C (c + 3) W v) (c + 4) W v2) (c + 5) W v3) (c + 6) W v4 c = C c := fun v v2 v3 v4 => by rw [zq_u_ne (by omega), zq_u_ne (by omega), zq_u_ne (by omega), zq_u_ne (by omega)]
  have g5 : ∀ v v2 v3 v4 v5, zq_u (zq_u (zq_u (zq_u (zq_u C (c + 3) W v) (c + 4) W v2) (c + 5) W v3) (c + 6) W v4) (c + 7) W v5 c = C c := fun v v2 v3 v4 v5 => by rw [zq_u_ne (by omega), zq_u_ne (by omega), zq_u_ne (by omega), zq_u_ne (by omega), zq_u_ne (by omega)]
  have g6 : ∀ v v2 v3 v4 v5 v6, zq_u (zq_u (zq_u (zq_u (zq_u (zq_u C (c + 3) W v) (c + 4) W v2) (c + 5) W v3) (c + 6) W v4) (c + 7) W v5) (c + 8) W v6 c = C c := fun v v2 v3 v4 v5 v6 => by rw [zq_u_ne (by omega), zq_u_ne (by omega), zq_u_ne (by omega), zq_u_ne (by omega), zq_u_ne (by omega), zq_u_ne (by omega)]
  unfold rsk
  simp only [zr35_0, zr35_1, zr35_4, zr35_6, zr35_9, zr35_10, zr35_11, zr35_14, zr35_15, zr35_18, zr35_19, zr35_20, zr35_21, zr35_24, zr35_25, zr35_28, zr35_29, zr35_30, zr35_31, zr35_34, zr35_35, zr35_38, zr35_39, zr35_40, zr35_41, zr35_44, zr35_45, zr35_48, zr35_49, zr35_50, zr35_53, zr35_54, zr35_55, zr35_58, zr35_59, zr35_62, zr35_63, zr35_64, zr35_67, zr35_68, zr35_69, zr35_72, zr35_73, zr35_76, zr35_77, zr35_78, zr35_81, zr35_84, zr35_85, zr35_88, zr35_89, zr35_90, zr35_93, zr35_94, zr35_97, zr35_98, zr35_99, zr35_100, zr35_103, zr35_104, zr35_105, zr35_108, hc, zq_kill_int, zq_kill_ref, zq_kill_ret, zq_kill_null, zq_kill_long, zq_rf_some, zq_rf_none, true_and, and_true, true_implies, not_true_eq_false, not_false_eq_true, false_implies, Bool.true_eq_false, Bool.false_eq_true, nI_1, zb_i0, zb_i1, zb_i2, Option.toList_some, Option.toList_none, List.cons_append, List.nil_append, true_or, or_true, implies_true, zb_it, zb_if, zb_10, zb_00, zb_n5, zb_n2, zb_m1, zb_m3, zb_m9, or_true, true_or, or_false, false_or, hp, h3, x1, x2, g1, g2, g3, g4, g5, g6, k_Court_troubleAs, k_Court_needsAs, k_Court_kindIs, zc_mime]
  by_cases q : zm_mime x = true
  · rw [if_pos q]; simp [q]
  · rw [if_neg q]; simp [q]
theorem k_Court_everybody (hc : zq_Ct S hr c) (hp : C c 9 = nI P) (hP : P ≤ 3) : zq_P d 34 0 [.ref c] [] (S, C, hl, hr) Q = Q (some (.int (nI (2 ^ P - 1)))) (S, C, hl, hr) := by
  unfold zq_Ct at hc
  simp only [zr34_0, zr34_1, zr34_2, zr34_5, zr34_6, zr34_7, zr34_8, hc, zq_kill_int, zq_kill_ref, zq_kill_ret, zq_kill_null, zq_kill_long, zq_rf_some, zq_rf_none, true_and, and_true, true_implies, not_true_eq_false, not_false_eq_true, false_implies, Bool.true_eq_false, Bool.false_eq_true, nI_1, zb_i0, zb_i1, zb_i2, Option.toList_some, Option.toList_none, List.cons_append, List.nil_append, true_or, or_true, implies_true, zb_it, zb_if, zb_10, zb_00, zb_n5, zb_n2, zb_m1, zb_m3, zb_m9, or_true, true_or, or_false, false_or, hp, zb_ev1 P hP]
theorem zb_p2 (i : Nat) : nI i + 2 = nI (i + 2) := nI_add i 2
theorem zb_p3 (i : Nat) : nI i + 3 = nI (i + 3) := nI_add i 3
theorem zb_m1n0 : ((-1 : Int32) < 2) = True := eq_true (by decide)
theorem ppl_s (f : Nat → Int32) (n m i : Nat) (s : rdT) : ppl f n (m + 1) i s = if i < n ∧ f i = 111 then (match fgv f n (i + 1) 7 with
      | none => .inl (i + 1)
      | some r => if r < 2 then .inl (i + 1) else (match fgv f n (i + 2) (r - 1) with
        | none => .inl (i + 2)
        | some t => ppl f n m (skp f n (i + 3)) (s.1 + 1, upn s.2.1 s.1 r, upn s.2.2 s.1 t))) else .inr (i, s) := rfl
theorem k_Reader_people (hc : c = 36 ∨ c = 45) (hj : j < 4) (hn : n ≤ 60) : ∀ m P, P + m = 3 → ∀ i (rnd trn : Nat → Nat) C (v5 v6 : Value) (v3 : Int32), i ≤ n → CtP C c (P, rnd, trn) → pok (P, rnd, trn) → C (15 + 2 * j) 1 = nI n → C (15 + 1 + 2 * j) = f →
    ∃ C', (∀ y, y < c ∨ c + 8 < y → C' y = C y) ∧ C' c 8 = C c 8 ∧ C' c 10 = C c 10 ∧ ((∃ q, ppl f n m i (P, rnd, trn) = .inl q ∧ ∀ Q, zq_P (d + 4) 26 56 [.ref (15 + 2 * j), .ref c, .int (nI i), .int v3, .int (nI P), v5, v6] [] (zq_SG N, C, hl, zq_HR ca cb cs) Q = Q (some (.int (nI q))) (zq_SG N, C', hl, zq_HR ca cb cs)) ∨
      ∃ i' s v4 v5' v6', ppl f n m i (P, rnd, trn) = .inr (i', s) ∧ i' ≤ n ∧ s.1 ≤ 3 ∧ pok s ∧ CtP C' c s ∧ ∀ Q, zq_P (d + 4) 26 56 [.ref (15 + 2 * j), .ref c, .int (nI i), .int v3, .int (nI P), v5, v6] [] (zq_SG N, C, hl, zq_HR ca cb cs) Q = zq_P (d + 4) 26 137 [.ref (15 + 2 * j), .ref c, .int (nI i'), .int v3, v4, v5', v6'] [] (zq_SG N, C', hl, zq_HR ca cb cs) Q) := by
  have hs := zq_Ss_texts (N := N) (ca := ca) (cb := cb) (cs := cs)
  have hsp := (hs.2 j hj).2
  have hct := zq_Ct_ok (N := N) (ca := ca) (cb := cb) (cs := cs) hc
  intro m
  induction m with
  | zero =>
    intro P hP i rnd trn C v5 v6 v3 hi hp hk e1 e2
    have q3 : (nI P < 3) = False := eq_false (nI_nlt (b := 3) (by omega) (by omega))
    refine ⟨C, fun _ _ => rfl, rfl, rfl, Or.inr ⟨i, (P, rnd, trn), .int (nI P), v5, v6, rfl, hi, by show P ≤ 3; omega, hk, hp, fun Q => ?_⟩⟩
    rw [zr26_56]
    simp only [zr26_0, zr26_1, zr26_4, zr26_5, zr26_6, zr26_9, zr26_10, zr26_11, zr26_12, zr26_15, zr26_17, zr26_20, zr26_21, zr26_22, zr26_23, zr26_24, zr26_25, zr26_26, zr26_28, zr26_31, zr26_32, zr26_33, zr26_36, zr26_37, zr26_38, zr26_39, zr26_40, zr26_41, zr26_42, zr26_45, zr26_46, zr26_47, zr26_48, zr26_49, zr26_52, zr26_53, zr26_54, zr26_58, zr26_59, zr26_62, zr26_63, zr26_64, zr26_67, zr26_69, zr26_72, zr26_73, zr26_74, zr26_75, zr26_76, zr26_78, zr26_81, zr26_83, zr26_85, zr26_86, zr26_89, zr26_90, zr26_91, zr26_92, zr26_93, zr26_94, zr26_95, zr26_96, zr26_97, zr26_99, zr26_100, zr26_101, zr26_104, zr26_106, zr26_108, zr26_111, zr26_112, zr26_113, zr26_114, zr26_115, zr26_116, zr26_118, zr26_120, zr26_123, zr26_124, zr26_125, zr26_126, zr26_127, zr26_130, zr26_131, zr26_134, zr26_138, zr26_139, zr26_140, zr26_143, zq_kill_int, zq_kill_ref, zq_kill_ret, zq_kill_null, zq_kill_long, zq_rf_some, zq_rf_none, true_and, and_true, true_implies, not_true_eq_false, not_false_eq_true, false_implies, Bool.true_eq_false, Bool.false_eq_true, nI_1, zb_i0, zb_i1, zb_i2, Option.toList_some, Option.toList_none, List.cons_append, List.nil_append, true_or, or_true, implies_true, zb_it, zb_if, zb_10, zb_00, zb_n5, zb_n2, zb_m1, zb_m3, zb_m9, or_true, true_or, or_false, false_or, q3]
  | succ m ih =>
    intro P hP i rnd trn C v5 v6 v3 hi hp hk e1 e2
    have q3 : (nI P < 3) = True := eq_true ((nI_ltI (b := 3) (by omega) (by omega)).mpr (by omega))
    have bt := fun Q => k_Strip_byteAt (d := d + 2) (hl := hl) (Q := Q) hsp e1 hn e2 (show i ≤ 1000 by omega)
    have f7 : ∀ Q, zq_P (d + 3) 30 0 [.ref (15 + 2 * j), .int (nI (i + 1)), .int 7, .retAddr 0] [] (zq_SG N, C, hl, zq_HR ca cb cs) Q = Q (some (.int (ddi (fgv f n (i + 1) 7)))) (zq_SG N, C, hl, zq_HR ca cb cs) := fun Q => k_Reader_figure (d := d + 1) (h := 7) hsp e1 hn e2 (by omega) (by omega)
    have b1 := bya_in (f := f) (n := n) (i := i) (y := 111) (by decide)
    rw [ppl_s]
    by_cases q : i < n ∧ f i = 111
    · rw [if_pos q]
      have b2 : (bya f n i = 111) = True := by rw [b1]; exact eq_true q
      cases h7 : fgv f n (i + 1) 7 with
      | none =>
        rw [h7] at f7
        refine ⟨C, fun _ _ => rfl, rfl, rfl, Or.inl ⟨i + 1, rfl, fun Q => ?_⟩⟩
        rw [zr26_56]
        simp only [zr26_0, zr26_1, zr26_4, zr26_5, zr26_6, zr26_9, zr26_10, zr26_11, zr26_12, zr26_15, zr26_17, zr26_20, zr26_21, zr26_22, zr26_23, zr26_24, zr26_25, zr26_26, zr26_28, zr26_31, zr26_32, zr26_33, zr26_36, zr26_37, zr26_38, zr26_39, zr26_40, zr26_41, zr26_42, zr26_45, zr26_46, zr26_47, zr26_48, zr26_49, zr26_52, zr26_53, zr26_54, zr26_58, zr26_59, zr26_62, zr26_63, zr26_64, zr26_67, zr26_69, zr26_72, zr26_73, zr26_74, zr26_75, zr26_76, zr26_78, zr26_81, zr26_83, zr26_85, zr26_86, zr26_89, zr26_90, zr26_91, zr26_92, zr26_93, zr26_94, zr26_95, zr26_96, zr26_97, zr26_99, zr26_100, zr26_101, zr26_104, zr26_106, zr26_108, zr26_111, zr26_112, zr26_113, zr26_114, zr26_115, zr26_116, zr26_118, zr26_120, zr26_123, zr26_124, zr26_125, zr26_126, zr26_127, zr26_130, zr26_131, zr26_134, zr26_138, zr26_139, zr26_140, zr26_143, hsp.1, zq_kill_int, zq_kill_ref, zq_kill_ret, zq_kill_null, zq_kill_long, zq_rf_some, zq_rf_none, true_and, and_true, true_implies, not_true_eq_false, not_false_eq_true, false_implies, Bool.true_eq_false, Bool.false_eq_true, nI_1, zb_i0, zb_i1, zb_i2, Option.toList_some, Option.toList_none, List.cons_append, List.nil_append, true_or, or_true, implies_true, zb_it, zb_if, zb_10, zb_00, zb_n5, zb_n2, zb_m1, zb_m3, zb_m9, or_true, true_or, or_false, false_or, q3, bt, b2, f7, ddi_n, zb_m1n0]
      | some r =>
        rw [h7] at f7
        obtain ⟨r1, r2, -⟩ := fgv_some (by omega) h7
        dsimp only
        by_cases q2 : r < 2
        · have r3 : (nI r < 2) = True := eq_true ((nI_ltI (b := 2) (by omega) (by omega)).mpr q2)
          rw [if_pos q2]
          refine ⟨C, fun _ _ => rfl, rfl, rfl, Or.inl ⟨i + 1, rfl, fun Q => ?_⟩⟩
          rw [zr26_56]
          simp only [zr26_0, zr26_1, zr26_4, zr26_5, zr26_6, zr26_9, zr26_10, zr26_11, zr26_12, zr26_15, zr26_17, zr26_20, zr26_21, zr26_22, zr26_23, zr26_24, zr26_25, zr26_26, zr26_28, zr26_31, zr26_32, zr26_33, zr26_36, zr26_37, zr26_38, zr26_39, zr26_40, zr26_41, zr26_42, zr26_45, zr26_46, zr26_47, zr26_48, zr26_49, zr26_52, zr26_53, zr26_54, zr26_58, zr26_59, zr26_62, zr26_63, zr26_64, zr26_67, zr26_69, zr26_72, zr26_73, zr26_74, zr26_75, zr26_76, zr26_78, zr26_81, zr26_83, zr26_85, zr26_86, zr26_89, zr26_90, zr26_91, zr26_92, zr26_93, zr26_94, zr26_95, zr26_96, zr26_97, zr26_99, zr26_100, zr26_101, zr26_104, zr26_106, zr26_108, zr26_111, zr26_112, zr26_113, zr26_114, zr26_115, zr26_116, zr26_118, zr26_120, zr26_123, zr26_124, zr26_125, zr26_126, zr26_127, zr26_130, zr26_131, zr26_134, zr26_138, zr26_139, zr26_140, zr26_143, hsp.1, zq_kill_int, zq_kill_ref, zq_kill_ret, zq_kill_null, zq_kill_long, zq_rf_some, zq_rf_none, true_and, and_true, true_implies, not_true_eq_false, not_false_eq_true, false_implies, Bool.true_eq_false, Bool.false_eq_true, nI_1, zb_i0, zb_i1, zb_i2, Option.toList_some, Option.toList_none, List.cons_append, List.nil_append, true_or, or_true, implies_true, zb_it, zb_if, zb_10, zb_00, zb_n5, zb_n2, zb_m1, zb_m3, zb_m9, or_true, true_or, or_false, false_or, q3, bt, b2, f7, ddi_w, r3]
        · have r3 : (nI r < 2) = False := eq_false (nI_nlt (b := 2) (by omega) (by omega))
          have r4 : nI r - 1 = nI (r - 1) := by
            have := nI_pred (r - 1)
            rwa [show r - 1 + 1 = r by omega] at this
          have fr : ∀ Q, zq_P (d + 3) 30 0 [.ref (15 + 2 * j), .int (nI (i + 2)), .int (nI (r - 1)), .retAddr 0] [] (zq_SG N, C, hl, zq_HR ca cb cs) Q = Q (some (.int (ddi (fgv f n (i + 2) (r - 1))))) (zq_SG N, C, hl, zq_HR ca cb cs) := fun Q => k_Reader_figure (d := d + 1) (h := r - 1) hsp e1 hn e2 (by omega) (by omega)
          rw [if_neg q2]
          cases h8 : fgv f n (i + 2) (r - 1) with
          | none =>
            rw [h8] at fr
            refine ⟨C, fun _ _ => rfl, rfl, rfl, Or.inl ⟨i + 2, rfl, fun Q => ?_⟩⟩
            rw [zr26_56]
            simp only [zr26_0, zr26_1, zr26_4, zr26_5, zr26_6, zr26_9, zr26_10, zr26_11, zr26_12, zr26_15, zr26_17, zr26_20, zr26_21, zr26_22, zr26_23, zr26_24, zr26_25, zr26_26, zr26_28, zr26_31, zr26_32, zr26_33, zr26_36, zr26_37, zr26_38, zr26_39, zr26_40, zr26_41, zr26_42, zr26_45, zr26_46, zr26_47, zr26_48, zr26_49, zr26_52, zr26_53, zr26_54, zr26_58, zr26_59, zr26_62, zr26_63, zr26_64, zr26_67, zr26_69, zr26_72, zr26_73, zr26_74, zr26_75, zr26_76, zr26_78, zr26_81, zr26_83, zr26_85, zr26_86, zr26_89, zr26_90, zr26_91, zr26_92, zr26_93, zr26_94, zr26_95, zr26_96, zr26_97, zr26_99, zr26_100, zr26_101, zr26_104, zr26_106, zr26_108, zr26_111, zr26_112, zr26_113, zr26_114, zr26_115, zr26_116, zr26_118, zr26_120, zr26_123, zr26_124, zr26_125, zr26_126, zr26_127, zr26_130, zr26_131, zr26_134, zr26_138, zr26_139, zr26_140, zr26_143, hsp.1, zq_kill_int, zq_kill_ref, zq_kill_ret, zq_kill_null, zq_kill_long, zq_rf_some, zq_rf_none, true_and, and_true, true_implies, not_true_eq_false, not_false_eq_true, false_implies, Bool.true_eq_false, Bool.false_eq_true, nI_1, zb_i0, zb_i1, zb_i2, Option.toList_some, Option.toList_none, List.cons_append, List.nil_append, true_or, or_true, implies_true, zb_it, zb_if, zb_10, zb_00, zb_n5, zb_n2, zb_m1, zb_m3, zb_m9, or_true, true_or, or_false, false_or, q3, bt, b2, f7, ddi_w, r3, r4, zb_p2, fr, ddi_n]
          | some t =>
            rw [h8] at fr
            obtain ⟨t1, t2, -⟩ := fgv_some (by omega) h8
            generalize hC1 : zq_u (zq_u (zq_u C (c + 1) P (nI r)) (c + 2) P (nI t)) c 9 (nI (P + 1)) = C1
            have o1 : ∀ y, y < c ∨ c + 8 < y → C1 y = C y := fun y hy => by rw [← hC1, zq_u_ne (by omega), zq_u_ne (by omega), zq_u_ne (by omega)]
            have ap := fun Q => k_Court_addPerson (d := d + 3) (hl := hl) (Q := Q) (x := nI r) (z := nI t) hct hp.1 (by omega)
            rw [hC1] at ap
            have bl := fun Q => k_Reader_blanks (d := d + 1) (hl := hl) (Q := Q) (C := C1) (f := f) (n := n) (i := i + 3) hsp (by rw [o1 _ (by omega)]; exact e1) hn (by rw [o1 _ (by omega)]; exact e2) (by omega)
            have c1 : C1 (c + 1) = upd1 (C (c + 1)) P (nI r) := by
              funext k
              rw [← hC1, zq_u_ne (by omega), zq_u_ne (by omega)]
              simp [zq_u, upd1]
            have c2 : C1 (c + 2) = upd1 (C (c + 2)) P (nI t) := by
              funext k
              rw [← hC1, zq_u_ne (by omega)]
              simp [zq_u, upd1]
            obtain ⟨C', m1, m2, m3, m4⟩ := ih (P + 1) (by omega) (skp f n (i + 3)) (upn rnd P r) (upn trn P t) C1 (.int (nI r)) (.int (nI t)) v3 (sk_le _ _ (by omega)) ⟨by rw [← hC1]; exact zq_u_eq, fun k hk' => by
              dsimp only at hk' ⊢
              rw [c1, c2]
              unfold upd1
              by_cases ek : k = P
              · subst ek; rw [if_pos rfl, if_pos rfl, upn_eq, upn_eq]; exact ⟨rfl, rfl⟩
              · rw [if_neg ek, if_neg ek, upn_ne ek, upn_ne ek]; exact hp.2 k (by show k < P; omega)⟩ (upn_all (π := rnd) (k := P) (v := r) (p := fun y => 2 ≤ y ∧ y ≤ 7) hk ⟨by omega, r2⟩) (by rw [o1 _ (by omega)]; exact e1) (by rw [o1 _ (by omega)]; exact e2)
            have d8 : C1 c 8 = C c 8 := by rw [← hC1, zq_u_kn (by omega), zq_u_ne (by omega), zq_u_ne (by omega)]
            have d10 : C1 c 10 = C c 10 := by rw [← hC1, zq_u_kn (by omega), zq_u_ne (by omega), zq_u_ne (by omega)]
            have step : ∀ Q, zq_P (d + 4) 26 56 [.ref (15 + 2 * j), .ref c, .int (nI i), .int v3, .int (nI P), v5, v6] [] (zq_SG N, C, hl, zq_HR ca cb cs) Q = zq_P (d + 4) 26 56 [.ref (15 + 2 * j), .ref c, .int (nI (skp f n (i + 3))), .int v3, .int (nI (P + 1)), .int (nI r), .int (nI t)] [] (zq_SG N, C1, hl, zq_HR ca cb cs) Q := fun Q => by
              rw [zr26_56]
              have t3 : (nI t < 0) = False := eq_false (nI_pos (by omega))
              simp only [zr26_0, zr26_1, zr26_4, zr26_5, zr26_6, zr26_9, zr26_10, zr26_11, zr26_12, zr26_15, zr26_17, zr26_20, zr26_21, zr26_22, zr26_23, zr26_24, zr26_25, zr26_26, zr26_28, zr26_31, zr26_32, zr26_33, zr26_36, zr26_37, zr26_38, zr26_39, zr26_40, zr26_41, zr26_42, zr26_45, zr26_46, zr26_47, zr26_48, zr26_49, zr26_52, zr26_53, zr26_54, zr26_58, zr26_59, zr26_62, zr26_63, zr26_64, zr26_67, zr26_69, zr26_72, zr26_73, zr26_74, zr26_75, zr26_76, zr26_78, zr26_81, zr26_83, zr26_85, zr26_86, zr26_89, zr26_90, zr26_91, zr26_92, zr26_93, zr26_94, zr26_95, zr26_96, zr26_97, zr26_99, zr26_100, zr26_101, zr26_104, zr26_106, zr26_108, zr26_111, zr26_112, zr26_113, zr26_114, zr26_115, zr26_116, zr26_118, zr26_120, zr26_123, zr26_124, zr26_125, zr26_126, zr26_127, zr26_130, zr26_131, zr26_134, zr26_138, zr26_139, zr26_140, zr26_143, hsp.1, hct.1, zq_kill_int, zq_kill_ref, zq_kill_ret, zq_kill_null, zq_kill_long, zq_rf_some, zq_rf_none, true_and, and_true, true_implies, not_true_eq_false, not_false_eq_true, false_implies, Bool.true_eq_false, Bool.false_eq_true, nI_1, zb_i0, zb_i1, zb_i2, Option.toList_some, Option.toList_none, List.cons_append, List.nil_append, true_or, or_true, implies_true, zb_it, zb_if, zb_10, zb_00, zb_n5, zb_n2, zb_m1, zb_m3, zb_m9, or_true, true_or, or_false, false_or, q3, bt, b2, f7, ddi_w, r3, r4, zb_p2, zb_p3, fr, t3, ap, bl]
            refine ⟨C', fun y hy => (m1 y hy).trans (o1 y hy), m2.trans d8, m3.trans d10, ?_⟩
            rcases m4 with ⟨q, k1, k2⟩ | ⟨i', s, v4, v5', v6', k1, k2, k3, k4, k5, k6⟩
            · exact Or.inl ⟨q, k1, fun Q => (step Q).trans (k2 Q)⟩
            · exact Or.inr ⟨i', s, v4, v5', v6', k1, k2, k3, k4, k5, fun Q => (step Q).trans (k6 Q)⟩
    · rw [if_neg q]
      have b2 : (bya f n i = 111) = False := by rw [b1]; exact eq_false q
      refine ⟨C, fun _ _ => rfl, rfl, rfl, Or.inr ⟨i, (P, rnd, trn), .int (nI P), v5, v6, rfl, hi, by show P ≤ 3; omega, hk, hp, fun Q => ?_⟩⟩
      rw [zr26_56]
      simp only [zr26_0, zr26_1, zr26_4, zr26_5, zr26_6, zr26_9, zr26_10, zr26_11, zr26_12, zr26_15, zr26_17, zr26_20, zr26_21, zr26_22, zr26_23, zr26_24, zr26_25, zr26_26, zr26_28, zr26_31, zr26_32, zr26_33, zr26_36, zr26_37, zr26_38, zr26_39, zr26_40, zr26_41, zr26_42, zr26_45, zr26_46, zr26_47, zr26_48, zr26_49, zr26_52, zr26_53, zr26_54, zr26_58, zr26_59, zr26_62, zr26_63, zr26_64, zr26_67, zr26_69, zr26_72, zr26_73, zr26_74, zr26_75, zr26_76, zr26_78, zr26_81, zr26_83, zr26_85, zr26_86, zr26_89, zr26_90, zr26_91, zr26_92, zr26_93, zr26_94, zr26_95, zr26_96, zr26_97, zr26_99, zr26_100, zr26_101, zr26_104, zr26_106, zr26_108, zr26_111, zr26_112, zr26_113, zr26_114, zr26_115, zr26_116, zr26_118, zr26_120, zr26_123, zr26_124, zr26_125, zr26_126, zr26_127, zr26_130, zr26_131, zr26_134, zr26_138, zr26_139, zr26_140, zr26_143, hsp.1, zq_kill_int, zq_kill_ref, zq_kill_ret, zq_kill_null, zq_kill_long, zq_rf_some, zq_rf_none, true_and, and_true, true_implies, not_true_eq_false, not_false_eq_true, false_implies, Bool.true_eq_false, Bool.false_eq_true, nI_1, zb_i0, zb_i1, zb_i2, Option.toList_some, Option.toList_none, List.cons_append, List.nil_append, true_or, or_true, implies_true, zb_it, zb_if, zb_10, zb_00, zb_n5, zb_n2, zb_m1, zb_m3, zb_m9, or_true, true_or, or_false, false_or, q3, bt, b2]
theorem wys_s (f : Nat → Int32) (n P m i : Nat) (s : wyT) : wys f n P (m + 1) i s = if i < n then (match kb (f i) with
      | none => .inl i
      | some k => (match fgv f n (i + 1) 9 with
        | none => .inl (i + 1)
        | some t => (match fgv f n (i + 2) (2 ^ P - 1) with
          | none => .inl (i + 2)
          | some q => wys f n P m (skp f n (i + 3)) (s.1 + 1, upn s.2.1 s.1 k, upn s.2.2.1 s.1 t, upn s.2.2.2 s.1 q)))) else .inr (i, s) := rfl
end Z61
theorem ppl_lt {f : Nat → Int32} {n : Nat} (hn : n ≤ 60) : ∀ m i s {q : Nat}, i ≤ n → ppl f n m i s = .inl q → q < 2147483648 := by
  intro m
  induction m with
  | zero => intro i s q _ h; cases h
  | succ m ih =>
    intro i s q hi h
    rw [ppl_s] at h
    split at h
    · split at h
      · cases h; omega
      · split at h
        · cases h; omega
        · rename_i r hr hr2
          have h7 := (fgv_some (by omega) hr).2.1
          split at h
          · cases h; omega
          · rename_i t ht
            have := (fgv_some (by omega) ht).1
            exact ih _ _ (sk_le _ _ (by omega)) h
    · cases h
theorem wys_lt {f : Nat → Int32} {n P : Nat} (hn : n ≤ 60) (hP : P ≤ 3) : ∀ m i s {q : Nat}, i ≤ n → wys f n P m i s = .inl q → q < 2147483648 := by
  have h8 := zb_p8 P hP
  intro m
  induction m with
  | zero => intro i s q _ h; cases h
  | succ m ih =>
    intro i s q hi h
    rw [wys_s] at h
    split at h
    · split at h
      · cases h; omega
      · split at h
        · cases h; omega
        · split at h
          · cases h; omega
          · rename_i t ht
            have := (fgv_some (by omega) ht).1
            exact ih _ _ (sk_le _ _ (by omega)) h
    · cases h
