/-! least: the first of the least plans -/
def bx (ok : zq_I → Nat → Bool) (W : Nat) (t : Nat → Nat) : Nat → Nat → zq_I → Nat → (Nat → Nat) → bsT → bsT
  | 0, _, _, s, π, b => bsu b s π
  | m + 1, k, M, s, π, b => fo (fun w b => if ok M w = true then bx ok W t m (k + 1) (zm_go M w) (s + t w) (upn π k w) b else b) W b
theorem bx_s (ok : zq_I → Nat → Bool) (W : Nat) (t : Nat → Nat) (m k : Nat) (M : zq_I) (s : Nat) (π : Nat → Nat) (b : bsT) : bx ok W t (m + 1) k M s π b = fo (fun w b => if ok M w = true then bx ok W t m (k + 1) (zm_go M w) (s + t w) (upn π k w) b else b) W b := rfl
theorem ex_2 {ok : zq_I → Nat → Bool} {W : Nat} {t : Nat → Nat} : ∀ m k M s π a, (ex ok W t m k M s π a).2.1 = bx ok W t m k M s π a.2.1 := by
  intro m
  induction m with
  | zero => intro k M s π a; rfl
  | succ m ih =>
    intro k M s π a
    rw [ex_s, bx_s]
    have key : ∀ v, (fo (fun w a => if ok M w = true then ex ok W t m (k + 1) (zm_go M w) (s + t w) (upn π k w) (ent a (k + 1) (upn π k w)) else a) v a).2.1 = fo (fun w b => if ok M w = true then bx ok W t m (k + 1) (zm_go M w) (s + t w) (upn π k w) b else b) v a.2.1 := by
      intro v
      induction v with
      | zero => rfl
      | succ v ihv =>
        simp only [fo_s]
        by_cases e : ok M v = true
        · rw [if_pos e, if_pos e, ih, ent_2, ihv]
        · rw [if_neg e, if_neg e, ihv]
    exact key W
theorem bx_skip {ok : zq_I → Nat → Bool} {W ch : Nat} {t : Nat → Nat} (hch : ∀ w, w < W → ch ≤ t w) : ∀ m k M s π c ρ, c ≤ s + m * ch → bx ok W t m k M s π (some (c, ρ)) = some (c, ρ) := by
  intro m
  induction m with
  | zero =>
    intro k M s π c ρ h
    exact if_neg (by omega)
  | succ m ih =>
    intro k M s π c ρ h
    rw [bx_s]
    have key : ∀ v, v ≤ W → fo (fun w b => if ok M w = true then bx ok W t m (k + 1) (zm_go M w) (s + t w) (upn π k w) b else b) v (some (c, ρ)) = some (c, ρ) := by
      intro v
      induction v with
      | zero => intro _; rfl
      | succ v ihv =>
        intro hv
        simp only [fo_s]
        rw [ihv (by omega)]
        have := hch v (by omega)
        rw [Nat.succ_mul] at h
        split
        · exact ih _ _ _ _ _ _ (by omega)
        · rfl
    exact key W (Nat.le_refl _)
theorem chp_nat {f : Nat → Int32} {t : Nat → Nat} : ∀ k, (∀ w, w < k → f w = nI (t w) ∧ t w ≤ 18) → ∃ ch, ch ≤ 20 ∧ chp f k = nI ch ∧ ∀ w, w < k → ch ≤ t w := by
  intro k
  induction k with
  | zero => intro _; exact ⟨20, Nat.le_refl _, rfl, fun w hw => absurd hw (Nat.not_lt_zero _)⟩
  | succ k ih =>
    intro h
    obtain ⟨ch, h1, h2, h3⟩ := ih fun w hw => h w (by omega)
    obtain ⟨e1, e2⟩ := h k (by omega)
    unfold chp
    rw [e1, h2]
    by_cases q : t k < ch
    · rw [if_pos ((nI_ltI (by omega) (by omega)).mpr q)]
      refine ⟨t k, by omega, rfl, fun w hw => ?_⟩
      by_cases e : w = k
      · subst e; exact Nat.le_refl _
      · have := h3 w (by omega); omega
    · rw [if_neg (nI_nlt (by omega) (by omega))]
      refine ⟨ch, h1, rfl, fun w hw => ?_⟩
      by_cases e : w = k
      · subst e; omega
      · exact h3 w (by omega)
/-- the class's best -/
def BR (n : Nat) (C : zq_I) (b : bsT) : Prop := match b with
  | none => C 54 6 = (-9)
  | some (c, ρ) => c ≤ 200 ∧ C 54 6 = nI c ∧ ∀ j, j < n → C 59 j = nI (ρ j)
section Z52
variable {N ca cb cs c d W P D n k w ch : Nat} {hi C C2 M H K : zq_I} {hl : zq_J} {Q : Option Value → zq_G → Prop} {t : Nat → Nat} {may b0 : Int32}
theorem BR_fr {b : bsT} (h : BR n C b) (e1 : C2 54 6 = C 54 6) (e2 : C2 59 = C 59) : BR n C2 b := by
  revert h
  unfold BR
  rw [e1, e2]
  exact id
theorem nI_sub' {m : Nat} (h : k + m = n) : nI n - nI k = nI m := by
  rw [show n = m + k by omega, ← nI_add]
  exact zb_asc _ _
theorem nI_n9 {a : Nat} (h : a < 2147483648) : (nI a = -9) = False := eq_false fun q => by
  have h5 : nI a < 0 := by rw [q]; decide
  exact nI_pos (by omega) h5
theorem k_Search_keepPath {v : Int32} : zq_P d 73 0 [.ref 54, .int v] [] (zq_SG N, C, hl, zq_HR ca cb cs) Q = Q none (zq_SG N, zq_w (zq_u C 54 6 v) 59 (va_cpy (C 58) (C 59) 0 0 6), hl, zq_HR ca cb cs) := by
  have q5 : (0 : Int32).toNatClampNeg = 0 := rfl
  have q6 : (6 : Int32).toNatClampNeg = 6 := rfl
  have q8 : ((6 : Int32) < 0) = False := eq_false (by decide)
  have q9 : (0 + 6 ≤ 6) = True := eq_true (by decide)
  have e1 : zq_u C 54 6 v 58 = C 58 := zq_u_ne (by omega)
  have e2 : zq_u C 54 6 v 59 = C 59 := zq_u_ne (by omega)
  simp only [zr73_0, zr73_1, zr73_2, zr73_5, zr73_6, zr73_9, zr73_10, zr73_11, zr73_14, zr73_15, zr73_17, zr73_20, zs_q0 N, zh_q0 ca cb cs, zq_kill_int, zq_kill_ref, zq_kill_ret, zq_kill_null, zq_kill_long, zq_rf_some, zq_rf_none, true_and, and_true, true_implies, not_true_eq_false, not_false_eq_true, false_implies, Bool.true_eq_false, Bool.false_eq_true, nI_1, zb_i0, zb_i1, zb_i2, Option.toList_some, Option.toList_none, List.cons_append, List.nil_append, true_or, or_true, implies_true, zb_it, zb_if, zb_10, zb_00, zb_n5, zb_n2, zb_m1, zb_m3, zb_m9, or_true, true_or, or_false, false_or, q5, q6, q8, q9, e1, e2]
theorem qfr_kp {v : Int32} {f : Nat → Int32} : qfr C (zq_w (zq_u C 54 6 v) 59 f) := qfr_tr qfr_54 qfr_59
theorem k_Search_seekLeast (hc : c = 36 ∨ c = 45) (hn : n ≤ 6) (hch0 : ch ≤ 20) (hch : ∀ w, w < W → ch ≤ t w) : ∀ m k, k + m = n → ∀ e, m ≤ e → ∀ D C M s π b, Cor c W P D C M → Mok W P t M → D + m ≤ 200 → C 54 4 = nI n → C 54 5 = nI ch → C 55 4 = nI s → s ≤ 18 * k → (∀ j, j < k → C 58 j = nI (π j)) → BR n C b →
    ∃ C', qfr C C' ∧ (∀ j, j < k → C' 58 j = C 58 j) ∧ BR n C' (bx (okm W P 7) W t m k M s π b) ∧ ∀ Q, zq_P (e + 5) 72 0 [.ref 54, .int (nI k), .retAddr 0, .retAddr 0, .retAddr 0, .retAddr 0, .retAddr 0] [] (zq_SG N, C, hl, zq_HR ca cb c) Q = Q none (zq_SG N, C', hl, zq_HR ca cb c) := by
  have hct := zq_Ct_ok (N := N) (ca := ca) (cb := cb) (cs := c) hc
  have ho := zq_Co_ok (N := N) (ca := ca) (cb := cb) (cs := c) (o := 55) (Or.inr rfl)
  intro m
  induction m with
  | zero =>
    intro k hk e _ D C M s π b hcor hM hD h4 h5 hs hsk hp hb
    have hkn : k = n := by omega
    subst hkn
    have q0 : ((0 : Int32) < nI 0) = False := eq_false (by decide)
    have em : nI k - nI k = nI 0 := nI_sub' (m := 0) (by omega)
    have take : (C 54 6 = (-9)) = True ∨ ((C 54 6 = (-9)) = False ∧ (nI s + nI 0 * nI ch < C 54 6) = True) → bx (okm W P 7) W t 0 k M s π b = some (s, π) → ∃ C', qfr C C' ∧ (∀ j, j < k → C' 58 j = C 58 j) ∧ BR k C' (bx (okm W P 7) W t 0 k M s π b) ∧ ∀ Q, zq_P (e + 5) 72 0 [.ref 54, .int (nI k), .retAddr 0, .retAddr 0, .retAddr 0, .retAddr 0, .retAddr 0] [] (zq_SG N, C, hl, zq_HR ca cb c) Q = Q none (zq_SG N, C', hl, zq_HR ca cb c) := by
      intro hq hbx
      refine ⟨zq_w (zq_u C 54 6 (C 55 4)) 59 (va_cpy (C 58) (C 59) 0 0 6), qfr_kp, fun j hj => ?_, ?_, fun Q => ?_⟩
      · rw [zq_w_ne (by omega), zq_u_ne (by omega)]
      · rw [hbx]
        refine ⟨by omega, ?_, fun j hj => ?_⟩
        · rw [zq_w_ne (by omega), zq_u_eq]; exact hs
        · rw [zq_w_eq, pk_cpy_in (by omega) (by omega), show 0 + (j - 0) = j by omega]; exact hp j hj
      · rcases hq with hq | ⟨hq, hq2⟩
        · simp only [zr72_0, zr72_1, zr72_4, zr72_5, zr72_6, zr72_7, zr72_8, zr72_11, zr72_13, zr72_16, zr72_17, zr72_20, zr72_23, zr72_24, zr72_25, zr72_28, zr72_29, zr72_30, zr72_31, zr72_34, zr72_37, zr72_38, zr72_39, zr72_42, zr72_43, zr72_45, zr72_48, zr72_49, zr72_50, zr72_53, zr72_56, zr72_59, zr72_60, zr72_61, zr72_64, zr72_65, zr72_66, zr72_70, zr72_71, zr72_74, zr72_77, zr72_80, zr72_81, zr72_83, zr72_84, zr72_85, zr72_86, zr72_89, zr72_92, zr72_93, zr72_96, zr72_99, zr72_101, zr72_102, zr72_104, zr72_105, zr72_108, zr72_111, zr72_113, zr72_114, zr72_117, zr72_118, zr72_120, zr72_121, zr72_122, zr72_125, zr72_126, zr72_129, zr72_131, zr72_134, zr72_135, zr72_136, zr72_137, zr72_138, zr72_141, zr72_142, zr72_145, zr72_146, zr72_149, zr72_151, zr72_153, zr72_155, zr72_158, zr72_161, zr72_164, zs_q0 N, zh_q0 ca cb c, zq_kill_int, zq_kill_ref, zq_kill_ret, zq_kill_null, zq_kill_long, zq_rf_some, zq_rf_none, true_and, and_true, true_implies, not_true_eq_false, not_false_eq_true, false_implies, Bool.true_eq_false, Bool.false_eq_true, nI_1, zb_i0, zb_i1, zb_i2, Option.toList_some, Option.toList_none, List.cons_append, List.nil_append, true_or, or_true, implies_true, zb_it, zb_if, zb_10, zb_00, zb_n5, zb_n2, zb_m1, zb_m3, zb_m9, or_true, true_or, or_false, false_or, h4, h5, hs, em, hq, q0, k_Search_keepPath]
        · simp only [zr72_0, zr72_1, zr72_4, zr72_5, zr72_6, zr72_7, zr72_8, zr72_11, zr72_13, zr72_16, zr72_17, zr72_20, zr72_23, zr72_24, zr72_25, zr72_28, zr72_29, zr72_30, zr72_31, zr72_34, zr72_37, zr72_38, zr72_39, zr72_42, zr72_43, zr72_45, zr72_48, zr72_49, zr72_50, zr72_53, zr72_56, zr72_59, zr72_60, zr72_61, zr72_64, zr72_65, zr72_66, zr72_70, zr72_71, zr72_74, zr72_77, zr72_80, zr72_81, zr72_83, zr72_84, zr72_85, zr72_86, zr72_89, zr72_92, zr72_93, zr72_96, zr72_99, zr72_101, zr72_102, zr72_104, zr72_105, zr72_108, zr72_111, zr72_113, zr72_114, zr72_117, zr72_118, zr72_120, zr72_121, zr72_122, zr72_125, zr72_126, zr72_129, zr72_131, zr72_134, zr72_135, zr72_136, zr72_137, zr72_138, zr72_141, zr72_142, zr72_145, zr72_146, zr72_149, zr72_151, zr72_153, zr72_155, zr72_158, zr72_161, zr72_164, zs_q0 N, zh_q0 ca cb c, zq_kill_int, zq_kill_ref, zq_kill_ret, zq_kill_null, zq_kill_long, zq_rf_some, zq_rf_none, true_and, and_true, true_implies, not_true_eq_false, not_false_eq_true, false_implies, Bool.true_eq_false, Bool.false_eq_true, nI_1, zb_i0, zb_i1, zb_i2, Option.toList_some, Option.toList_none, List.cons_append, List.nil_append, true_or, or_true, implies_true, zb_it, zb_if, zb_10, zb_00, zb_n5, zb_n2, zb_m1, zb_m3, zb_m9, or_true, true_or, or_false, false_or, h4, h5, hs, em, hq, hq2, q0, k_Search_keepPath]
    cases b with
    | none =>
      have hb' : C 54 6 = (-9) := hb
      exact take (Or.inl (eq_true hb')) rfl
    | some cr =>
      obtain ⟨c0, ρ⟩ := cr
      obtain ⟨z1, z2, z3⟩ := hb
      have z4 : (C 54 6 = (-9)) = False := by rw [z2]; exact nI_n9 (by omega)
      have z5 : nI s + nI 0 * nI ch = nI s := by rw [pk_mul, nI_add]; congr 1; omega
      by_cases hlt : s < c0
      · exact take (Or.inr ⟨z4, by rw [z2, z5]; exact eq_true ((nI_ltI (by omega) (by omega)).mpr hlt)⟩) (if_pos hlt)
      · have z6 : (nI s + nI 0 * nI ch < C 54 6) = False := by rw [z2, z5]; exact eq_false (nI_nlt (by omega) (by omega))
        refine ⟨C, qfr_rfl C, fun j hj => rfl, ?_, fun Q => ?_⟩
        · rw [show bx (okm W P 7) W t 0 k M s π (some (c0, ρ)) = some (c0, ρ) from if_neg hlt]
          exact ⟨z1, z2, z3⟩
        · simp only [zr72_0, zr72_1, zr72_4, zr72_5, zr72_6, zr72_7, zr72_8, zr72_11, zr72_13, zr72_16, zr72_17, zr72_20, zr72_23, zr72_24, zr72_25, zr72_28, zr72_29, zr72_30, zr72_31, zr72_34, zr72_37, zr72_38, zr72_39, zr72_42, zr72_43, zr72_45, zr72_48, zr72_49, zr72_50, zr72_53, zr72_56, zr72_59, zr72_60, zr72_61, zr72_64, zr72_65, zr72_66, zr72_70, zr72_71, zr72_74, zr72_77, zr72_80, zr72_81, zr72_83, zr72_84, zr72_85, zr72_86, zr72_89, zr72_92, zr72_93, zr72_96, zr72_99, zr72_101, zr72_102, zr72_104, zr72_105, zr72_108, zr72_111, zr72_113, zr72_114, zr72_117, zr72_118, zr72_120, zr72_121, zr72_122, zr72_125, zr72_126, zr72_129, zr72_131, zr72_134, zr72_135, zr72_136, zr72_137, zr72_138, zr72_141, zr72_142, zr72_145, zr72_146, zr72_149, zr72_151, zr72_153, zr72_155, zr72_158, zr72_161, zr72_164, zs_q0 N, zh_q0 ca cb c, zq_kill_int, zq_kill_ref, zq_kill_ret, zq_kill_null, zq_kill_long, zq_rf_some, zq_rf_none, true_and, and_true, true_implies, not_true_eq_false, not_false_eq_true, false_implies, Bool.true_eq_false, Bool.false_eq_true, nI_1, zb_i0, zb_i1, zb_i2, Option.toList_some, Option.toList_none, List.cons_append, List.nil_append, true_or, or_true, implies_true, zb_it, zb_if, zb_10, zb_00, zb_n5, zb_n2, zb_m1, zb_m3, zb_m9, or_true, true_or, or_false, false_or, h4, h5, hs, em, z4, z6]
  | succ m ih =>
    intro k hk e he D C M s π b hcor hM hD h4 h5 hs hsk hp hb
    obtain ⟨e, rfl⟩ : ∃ e', e = e' + 1 := ⟨e - 1, by omega⟩
    rw [show e + 1 + 5 = e + 6 from rfl]
    obtain ⟨⟨w1, w2, w3, w4, w5, w6⟩, -, wa⟩ := hcor.facts hc
    have q0 : ((0 : Int32) < nI (m + 1)) = True := eq_true (nI_lt (a := 0) (by omega) (by omega))
    have q6 : (nI k < 6) = True := eq_true ((nI_ltI (b := 6) (by omega) (by omega)).mpr (by omega))
    have em : nI n - nI k = nI (m + 1) := nI_sub' (by omega)
    have op := fun Q => k_Search_open7 (N := N) (ca := ca) (cb := cb) (d := e + 1) (hl := hl) (Q := Q) hc hcor
    rw [show e + 1 + 4 = e + 5 from rfl] at op
    have xk1 : zq_xS (nI k) 6 := zb_x (by omega) (by omega)
    have xk2 : (nI k).toNatClampNeg = k := zb_cl (by omega)
    generalize hg : (fun w b => if okm W P 7 M w = true then bx (okm W P 7) W t m (k + 1) (zm_go M w) (s + t w) (upn π k w) b else b) = g
    have hgo : ∀ w b, okm W P 7 M w = false → g w b = b := fun w b e => by rw [← hg]; exact if_neg (by rw [e]; decide)
    have hgy : ∀ w b, okm W P 7 M w = true → g w b = bx (okm W P 7) W t m (k + 1) (zm_go M w) (s + t w) (upn π k w) b := fun w b e => by rw [← hg]; exact if_pos e
    have hex : bx (okm W P 7) W t (m + 1) k M s π b = fo g W b := by rw [← hg]; rfl
    have main : ∃ C', qfr C C' ∧ (∀ j, j < k → C' 58 j = C 58 j) ∧ BR n C' (fo g W b) ∧ ∀ Q, zq_P (e + 6) 72 38 [.ref 54, .int (nI k), .int (nI (m + 1)), .retAddr 0, .retAddr 0, .retAddr 0, .retAddr 0] [] (zq_SG N, C, hl, zq_HR ca cb c) Q = Q none (zq_SG N, C', hl, zq_HR ca cb c) := by
      obtain ⟨⟨C', v5, v6⟩, ⟨i1, i2, i3⟩, loop⟩ := zq_loopE (β := Option Value → zq_G → Prop) (n := W) (I := fun v (x : zq_I × Value × Value) => qfr C x.1 ∧ (∀ j, j < k → x.1 58 j = C 58 j) ∧ BR n x.1 (fo g v b)) (f := fun Q v (x : zq_I × Value × Value) => zq_P (e + 6) 72 68 [.ref 54, .int (nI k), .int (nI (m + 1)), .int (zb_set (okm W P 7 M) W), .int (nI v), x.2.1, x.2.2] [] (zq_SG N, x.1, hl, zq_HR ca cb c) Q) (fun v hv x hx => by
        obtain ⟨Cv, v5, v6⟩ := x
        obtain ⟨j1, j2, j3⟩ := hx
        dsimp only at j1 j2 j3
        have h3 : (nI v < nI W) = True := eq_true ((nI_ltI (by omega) (by omega)).mpr hv)
        have x1 : zq_xS (nI v) 7 := zb_x (by omega) (by omega)
        have x2 : (nI v).toNatClampNeg = v := zb_cl (by omega)
        have cw : Cv c 10 = nI W := by rw [j1.1 c (by omega) (by omega) (by omega)]; exact w3
        cases hbv : okm W P 7 M v with
        | false =>
          refine ⟨(Cv, v5, v6), ⟨j1, j2, ?_⟩, fun Q => ?_⟩
          · rw [fo_s, hgo v _ hbv]; exact j3
          · dsimp only
            rw [zr72_68]
            simp only [zr72_0, zr72_1, zr72_4, zr72_5, zr72_6, zr72_7, zr72_8, zr72_11, zr72_13, zr72_16, zr72_17, zr72_20, zr72_23, zr72_24, zr72_25, zr72_28, zr72_29, zr72_30, zr72_31, zr72_34, zr72_37, zr72_38, zr72_39, zr72_42, zr72_43, zr72_45, zr72_48, zr72_49, zr72_50, zr72_53, zr72_56, zr72_59, zr72_60, zr72_61, zr72_64, zr72_65, zr72_66, zr72_70, zr72_71, zr72_74, zr72_77, zr72_80, zr72_81, zr72_83, zr72_84, zr72_85, zr72_86, zr72_89, zr72_92, zr72_93, zr72_96, zr72_99, zr72_101, zr72_102, zr72_104, zr72_105, zr72_108, zr72_111, zr72_113, zr72_114, zr72_117, zr72_118, zr72_120, zr72_121, zr72_122, zr72_125, zr72_126, zr72_129, zr72_131, zr72_134, zr72_135, zr72_136, zr72_137, zr72_138, zr72_141, zr72_142, zr72_145, zr72_146, zr72_149, zr72_151, zr72_153, zr72_155, zr72_158, zr72_161, zr72_164, zs_q0 N, zh_q0 ca cb c, hct.1, zq_kill_int, zq_kill_ref, zq_kill_ret, zq_kill_null, zq_kill_long, zq_rf_some, zq_rf_none, true_and, and_true, true_implies, not_true_eq_false, not_false_eq_true, false_implies, Bool.true_eq_false, Bool.false_eq_true, nI_1, zb_i0, zb_i1, zb_i2, Option.toList_some, Option.toList_none, List.cons_append, List.nil_append, true_or, or_true, implies_true, zb_it, zb_if, zb_10, zb_00, zb_n5, zb_n2, zb_m1, zb_m3, zb_m9, or_true, true_or, or_false, false_or, cw, h3, zb_bit w1 hv, hbv]
        | true =>
          obtain ⟨g1, g2⟩ := hM.2.2 v hv
          generalize hCp : zq_u Cv 58 k (nI v) = Cp
          have qp : qfr Cv Cp := by rw [← hCp]; exact qfr_58
          have corp := (hcor.q hc j1).q hc qp
          have cpw : Cp c 10 = nI W := by rw [qp.1 c (by omega) (by omega) (by omega)]; exact cw
          have p56 : Cp 56 v = Cv 56 v := by rw [qp.1 56 (by omega) (by omega) (by omega)]
          have p55 : Cp 55 3 = Cv 55 3 := by rw [qp.1 55 (by omega) (by omega) (by omega)]
          have c55 : zc_go Cp c 55 v 55 4 = nI (s + t v) := by
            rw [zc_go_55, if_neg (by omega), if_neg (by omega), if_pos rfl, (qfr_tr j1 qp).1 55 (by omega) (by omega) (by omega), (qfr_tr j1 qp).1 (c + 6) (by omega) (by omega) (by omega), hs, (wa v hv).1, g1, nI_add]
          have o54 : zc_go Cp c 55 v 54 = Cp 54 := zc_go_o (by omega)
          have o58 : zc_go Cp c 55 v 58 = Cp 58 := zc_go_o (by omega)
          have o59 : zc_go Cp c 55 v 59 = Cp 59 := zc_go_o (by omega)
          have pth : ∀ j, j < k + 1 → zc_go Cp c 55 v 58 j = nI (upn π k v j) := fun j hj => by
            rw [o58, ← hCp]
            by_cases q : j = k
            · subst q; rw [zq_u_eq, upn_eq]
            · rw [zq_u_kn q, upn_ne q, j2 j (by omega)]; exact hp j (by omega)
          have b54 : Cp 54 = Cv 54 := by rw [← hCp]; exact zq_u_ne (by omega)
          have b59 : Cp 59 = Cv 59 := by rw [← hCp]; exact zq_u_ne (by omega)
          obtain ⟨C3, q1, q2, q3, q4⟩ := ih (k + 1) (by omega) e (by omega) (D + 1) (zc_go Cp c 55 v) (zm_go M v) (s + t v) (upn π k v) (fo g v b) (corp.go hc hv (by omega)) (hM.go hv) (by omega) (by rw [o54, b54, j1.2 4 (by omega)]; exact h4) (by rw [o54, b54, j1.2 5 (by omega)]; exact h5) c55 (by omega) pth (BR_fr j3 (by rw [o54, b54]) (by rw [o59, b59]))
          have go := fun Q => k_Course_goOn (d := e + 4) (hi := Cp) (hl := hl) (Q := Q) hct ho (by omega) cpw w1 hv
          have c3w : C3 c 10 = nI W := by rw [q1.1 c (by omega) (by omega) (by omega), zc_go_o (by omega)]; exact cpw
          have bk := fun Q => k_Course_goBack (d := e + 4) (hi := C3) (hl := hl) (Q := Q) (l := Cv 56 v) (a := Cv 55 3) hct ho (by omega) c3w w1 hv
          rw [show e + 4 + 1 = e + 5 from rfl] at go bk
          have qb := qfr_bk hc q1
          rw [p56, p55] at qb
          refine ⟨(zc_bk C3 c 55 v (Cv 56 v) (Cv 55 3), .int (Cv 56 v), .int (Cv 55 3)), ⟨qfr_tr j1 (qfr_tr qp qb), fun j hj => ?_, ?_⟩, fun Q => ?_⟩
          · dsimp only
            rw [zc_bk_o (by omega), q2 j (by omega), o58, ← hCp, zq_u_kn (by omega)]; exact j2 j hj
          · dsimp only
            rw [fo_s, hgy v _ hbv]
            exact BR_fr q3 (by rw [zc_bk_o (by omega)]) (zc_bk_o (by omega))
          · dsimp only
            rw [zr72_68]
            simp only [zr72_0, zr72_1, zr72_4, zr72_5, zr72_6, zr72_7, zr72_8, zr72_11, zr72_13, zr72_16, zr72_17, zr72_20, zr72_23, zr72_24, zr72_25, zr72_28, zr72_29, zr72_30, zr72_31, zr72_34, zr72_37, zr72_38, zr72_39, zr72_42, zr72_43, zr72_45, zr72_48, zr72_49, zr72_50, zr72_53, zr72_56, zr72_59, zr72_60, zr72_61, zr72_64, zr72_65, zr72_66, zr72_70, zr72_71, zr72_74, zr72_77, zr72_80, zr72_81, zr72_83, zr72_84, zr72_85, zr72_86, zr72_89, zr72_92, zr72_93, zr72_96, zr72_99, zr72_101, zr72_102, zr72_104, zr72_105, zr72_108, zr72_111, zr72_113, zr72_114, zr72_117, zr72_118, zr72_120, zr72_121, zr72_122, zr72_125, zr72_126, zr72_129, zr72_131, zr72_134, zr72_135, zr72_136, zr72_137, zr72_138, zr72_141, zr72_142, zr72_145, zr72_146, zr72_149, zr72_151, zr72_153, zr72_155, zr72_158, zr72_161, zr72_164, zs_q0 N, zh_q0 ca cb c, hct.1, zq_kill_int, zq_kill_ref, zq_kill_ret, zq_kill_null, zq_kill_long, zq_rf_some, zq_rf_none, true_and, and_true, true_implies, not_true_eq_false, not_false_eq_true, false_implies, Bool.true_eq_false, Bool.false_eq_true, nI_1, zb_i0, zb_i1, zb_i2, Option.toList_some, Option.toList_none, List.cons_append, List.nil_append, true_or, or_true, implies_true, zb_it, zb_if, zb_10, zb_00, zb_n5, zb_n2, zb_m1, zb_m3, zb_m9, or_true, true_or, or_false, false_or, cw, h3, x1, x2, xk1, xk2, zb_bit w1 hv, hbv, hCp, go, q4, bk]) (C, .retAddr 0, .retAddr 0) ⟨qfr_rfl C, fun _ _ => rfl, hb⟩
      have fW : (nI W < nI W) = False := eq_false (nI_nlt (Nat.le_refl _) (by omega))
      dsimp only at i1 i2 i3
      have cw : C' c 10 = nI W := by rw [i1.1 c (by omega) (by omega) (by omega)]; exact w3
      refine ⟨C', i1, i2, i3, fun Q => ?_⟩
      have lp : zq_P (e + 6) 72 68 [.ref 54, .int (nI k), .int (nI (m + 1)), .int (zb_set (okm W P 7 M) W), .int 0, .retAddr 0, .retAddr 0] [] (zq_SG N, C, hl, zq_HR ca cb c) Q = _ := loop Q
      simp only [zr72_0, zr72_1, zr72_4, zr72_5, zr72_6, zr72_7, zr72_8, zr72_11, zr72_13, zr72_16, zr72_17, zr72_20, zr72_23, zr72_24, zr72_25, zr72_28, zr72_29, zr72_30, zr72_31, zr72_34, zr72_37, zr72_38, zr72_39, zr72_42, zr72_43, zr72_45, zr72_48, zr72_49, zr72_50, zr72_53, zr72_56, zr72_59, zr72_60, zr72_61, zr72_64, zr72_65, zr72_66, zr72_70, zr72_71, zr72_74, zr72_77, zr72_80, zr72_81, zr72_83, zr72_84, zr72_85, zr72_86, zr72_89, zr72_92, zr72_93, zr72_96, zr72_99, zr72_101, zr72_102, zr72_104, zr72_105, zr72_108, zr72_111, zr72_113, zr72_114, zr72_117, zr72_118, zr72_120, zr72_121, zr72_122, zr72_125, zr72_126, zr72_129, zr72_131, zr72_134, zr72_135, zr72_136, zr72_137, zr72_138, zr72_141, zr72_142, zr72_145, zr72_146, zr72_149, zr72_151, zr72_153, zr72_155, zr72_158, zr72_161, zr72_164, zs_q0 N, zq_kill_int, zq_kill_ref, zq_kill_ret, zq_kill_null, zq_kill_long, zq_rf_some, zq_rf_none, true_and, and_true, true_implies, not_true_eq_false, not_false_eq_true, false_implies, Bool.true_eq_false, Bool.false_eq_true, nI_1, zb_i0, zb_i1, zb_i2, Option.toList_some, Option.toList_none, List.cons_append, List.nil_append, true_or, or_true, implies_true, zb_it, zb_if, zb_10, zb_00, zb_n5, zb_n2, zb_m1, zb_m3, zb_m9, or_true, true_or, or_false, false_or, q0, q6, op]
      refine Eq.trans lp ?_
      dsimp only
      rw [zr72_68]
      simp only [zr72_0, zr72_1, zr72_4, zr72_5, zr72_6, zr72_7, zr72_8, zr72_11, zr72_13, zr72_16, zr72_17, zr72_20, zr72_23, zr72_24, zr72_25, zr72_28, zr72_29, zr72_30, zr72_31, zr72_34, zr72_37, zr72_38, zr72_39, zr72_42, zr72_43, zr72_45, zr72_48, zr72_49, zr72_50, zr72_53, zr72_56, zr72_59, zr72_60, zr72_61, zr72_64, zr72_65, zr72_66, zr72_70, zr72_71, zr72_74, zr72_77, zr72_80, zr72_81, zr72_83, zr72_84, zr72_85, zr72_86, zr72_89, zr72_92, zr72_93, zr72_96, zr72_99, zr72_101, zr72_102, zr72_104, zr72_105, zr72_108, zr72_111, zr72_113, zr72_114, zr72_117, zr72_118, zr72_120, zr72_121, zr72_122, zr72_125, zr72_126, zr72_129, zr72_131, zr72_134, zr72_135, zr72_136, zr72_137, zr72_138, zr72_141, zr72_142, zr72_145, zr72_146, zr72_149, zr72_151, zr72_153, zr72_155, zr72_158, zr72_161, zr72_164, zs_q0 N, zh_q0 ca cb c, hct.1, zq_kill_int, zq_kill_ref, zq_kill_ret, zq_kill_null, zq_kill_long, zq_rf_some, zq_rf_none, true_and, and_true, true_implies, not_true_eq_false, not_false_eq_true, false_implies, Bool.true_eq_false, Bool.false_eq_true, nI_1, zb_i0, zb_i1, zb_i2, Option.toList_some, Option.toList_none, List.cons_append, List.nil_append, true_or, or_true, implies_true, zb_it, zb_if, zb_10, zb_00, zb_n5, zb_n2, zb_m1, zb_m3, zb_m9, or_true, true_or, or_false, false_or, cw, fW]
    rw [hex]
    cases b with
    | none =>
      have hb' : C 54 6 = (-9) := hb
      have z4 : (C 54 6 = (-9)) = True := eq_true hb'
      obtain ⟨C', m1, m2, m3, m4⟩ := main
      refine ⟨C', m1, m2, m3, fun Q => ?_⟩
      simp only [zr72_0, zr72_1, zr72_4, zr72_5, zr72_6, zr72_7, zr72_8, zr72_11, zr72_13, zr72_16, zr72_17, zr72_20, zr72_23, zr72_24, zr72_25, zr72_28, zr72_29, zr72_30, zr72_31, zr72_34, zr72_37, zr72_39, zr72_42, zr72_43, zr72_45, zr72_48, zr72_49, zr72_50, zr72_53, zr72_56, zr72_59, zr72_60, zr72_61, zr72_64, zr72_65, zr72_66, zr72_70, zr72_71, zr72_74, zr72_77, zr72_80, zr72_81, zr72_83, zr72_84, zr72_85, zr72_86, zr72_89, zr72_92, zr72_93, zr72_96, zr72_99, zr72_101, zr72_102, zr72_104, zr72_105, zr72_108, zr72_111, zr72_113, zr72_114, zr72_117, zr72_118, zr72_120, zr72_121, zr72_122, zr72_125, zr72_126, zr72_129, zr72_131, zr72_134, zr72_135, zr72_136, zr72_137, zr72_138, zr72_141, zr72_142, zr72_145, zr72_146, zr72_149, zr72_151, zr72_153, zr72_155, zr72_158, zr72_161, zr72_164, zs_q0 N, zh_q0 ca cb c, zq_kill_int, zq_kill_ref, zq_kill_ret, zq_kill_null, zq_kill_long, zq_rf_some, zq_rf_none, true_and, and_true, true_implies, not_true_eq_false, not_false_eq_true, false_implies, Bool.true_eq_false, Bool.false_eq_true, nI_1, zb_i0, zb_i1, zb_i2, Option.toList_some, Option.toList_none, List.cons_append, List.nil_append, true_or, or_true, implies_true, zb_it, zb_if, zb_10, zb_00, zb_n5, zb_n2, zb_m1, zb_m3, zb_m9, or_true, true_or, or_false, false_or, h4, em, z4, m4]
    | some cr =>
      obtain ⟨c0, ρ⟩ := cr
      obtain ⟨z1, z2, z3⟩ := id hb
      have z4 : (C 54 6 = (-9)) = False := by rw [z2]; exact nI_n9 (by omega)
      have z5 : nI s + nI (m + 1) * nI ch = nI (s + (m + 1) * ch) := by rw [pk_mul, nI_add]
      have z7 : (m + 1) * ch ≤ 120 := Nat.mul_le_mul (show m + 1 ≤ 6 by omega) hch0
      by_cases hlt : s + (m + 1) * ch < c0
      · have z6 : (nI s + nI (m + 1) * nI ch < C 54 6) = True := by rw [z2, z5]; exact eq_true ((nI_ltI (by omega) (by omega)).mpr hlt)
        obtain ⟨C', m1, m2, m3, m4⟩ := main
        refine ⟨C', m1, m2, m3, fun Q => ?_⟩
        simp only [zr72_0, zr72_1, zr72_4, zr72_5, zr72_6, zr72_7, zr72_8, zr72_11, zr72_13, zr72_16, zr72_17, zr72_20, zr72_23, zr72_24, zr72_25, zr72_28, zr72_29, zr72_30, zr72_31, zr72_34, zr72_37, zr72_39, zr72_42, zr72_43, zr72_45, zr72_48, zr72_49, zr72_50, zr72_53, zr72_56, zr72_59, zr72_60, zr72_61, zr72_64, zr72_65, zr72_66, zr72_70, zr72_71, zr72_74, zr72_77, zr72_80, zr72_81, zr72_83, zr72_84, zr72_85, zr72_86, zr72_89, zr72_92, zr72_93, zr72_96, zr72_99, zr72_101, zr72_102, zr72_104, zr72_105, zr72_108, zr72_111, zr72_113, zr72_114, zr72_117, zr72_118, zr72_120, zr72_121, zr72_122, zr72_125, zr72_126, zr72_129, zr72_131, zr72_134, zr72_135, zr72_136, zr72_137, zr72_138, zr72_141, zr72_142, zr72_145, zr72_146, zr72_149, zr72_151, zr72_153, zr72_155, zr72_158, zr72_161, zr72_164, zs_q0 N, zh_q0 ca cb c, zq_kill_int, zq_kill_ref, zq_kill_ret, zq_kill_null, zq_kill_long, zq_rf_some, zq_rf_none, true_and, and_true, true_implies, not_true_eq_false, not_false_eq_true, false_implies, Bool.true_eq_false, Bool.false_eq_true, nI_1, zb_i0, zb_i1, zb_i2, Option.toList_some, Option.toList_none, List.cons_append, List.nil_append, true_or, or_true, implies_true, zb_it, zb_if, zb_10, zb_00, zb_n5, zb_n2, zb_m1, zb_m3, zb_m9, or_true, true_or, or_false, false_or, h4, h5, hs, em, z4, z6, m4]
      · have z6 : (nI s + nI (m + 1) * nI ch < C 54 6) = False := by rw [z2, z5]; exact eq_false (nI_nlt (by omega) (by omega))
        refine ⟨C, qfr_rfl C, fun j hj => rfl, ?_, fun Q => ?_⟩
        · rw [← hex, bx_skip hch (m + 1) k M s π c0 ρ (by omega)]
          exact hb
        · simp only [zr72_0, zr72_1, zr72_4, zr72_5, zr72_6, zr72_7, zr72_8, zr72_11, zr72_13, zr72_16, zr72_17, zr72_20, zr72_23, zr72_24, zr72_25, zr72_28, zr72_29, zr72_30, zr72_31, zr72_34, zr72_37, zr72_39, zr72_42, zr72_43, zr72_45, zr72_48, zr72_49, zr72_50, zr72_53, zr72_56, zr72_59, zr72_60, zr72_61, zr72_64, zr72_65, zr72_66, zr72_70, zr72_71, zr72_74, zr72_77, zr72_80, zr72_81, zr72_83, zr72_84, zr72_85, zr72_86, zr72_89, zr72_92, zr72_93, zr72_96, zr72_99, zr72_101, zr72_102, zr72_104, zr72_105, zr72_108, zr72_111, zr72_113, zr72_114, zr72_117, zr72_118, zr72_120, zr72_121, zr72_122, zr72_125, zr72_126, zr72_129, zr72_131, zr72_134, zr72_135, zr72_136, zr72_137, zr72_138, zr72_141, zr72_142, zr72_145, zr72_146, zr72_149, zr72_151, zr72_153, zr72_155, zr72_158, zr72_161, zr72_164, zs_q0 N, zh_q0 ca cb c, zq_kill_int, zq_kill_ref, zq_kill_ret, zq_kill_null, zq_kill_long, zq_rf_some, zq_rf_none, true_and, and_true, true_implies, not_true_eq_false, not_false_eq_true, false_implies, Bool.true_eq_false, Bool.false_eq_true, nI_1, zb_i0, zb_i1, zb_i2, Option.toList_some, Option.toList_none, List.cons_append, List.nil_append, true_or, or_true, implies_true, zb_it, zb_if, zb_10, zb_00, zb_n5, zb_n2, zb_m1, zb_m3, zb_m9, or_true, true_or, or_false, false_or, h4, h5, hs, em, z4, z6]
end Z52
