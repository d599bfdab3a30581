/-! strikes: the class -/
def clr (L w : Nat) : Nat := if L.testBit w = true then L - 2 ^ w else L
theorem zl_b : ∀ L, L < 128 → ∀ w, w < 7 → nI L >>> (nI w &&& 31) &&& 1 = zb_i (L.testBit w) := by decide +kernel
theorem zl_clr : ∀ L, L < 128 → ∀ w, w < 7 → nI L &&& (((1 : Int32) <<< (nI w &&& 31)) ^^^ (-1)) = nI (clr L w) ∧ clr L w ≤ L := by decide +kernel
theorem zl_set : ∀ L, L < 128 → ∀ w, w < 7 → L.testBit w = true → nI (clr L w) ||| ((1 : Int32) <<< (nI w &&& 31)) = nI L := by decide +kernel
theorem zl_and : ∀ a, a < 128 → ∀ b, b < 128 → nI a &&& nI b = nI (a &&& b) := by decide +kernel
def vdf (ok : zq_I → Nat → Bool) (W : Nat) (t : Nat → Nat) (f : Nat → zq_I → Nat) (L : Nat) (M : zq_I) : Nat := fo (fun w x => if (ok M w && L.testBit w) = true then min x (t w + f L (zm_go M w)) else x) W (20 + f L (zm_re M))
def vsf (ok : zq_I → Nat → Bool) (W : Nat) (t : Nat → Nat) : Nat → Nat → zq_I → Nat
  | 0, _, _ => 0
  | n + 1, L, M => if L = 0 then vdf ok W t (vsf ok W t n) 0 M else fo (fun w x => if L.testBit w = true then max x (vdf ok W t (vsf ok W t n) (clr L w) M) else x) W 0
theorem vsf_s (ok : zq_I → Nat → Bool) (W : Nat) (t : Nat → Nat) (n L : Nat) (M : zq_I) : vsf ok W t (n + 1) L M = if L = 0 then vdf ok W t (vsf ok W t n) 0 M else fo (fun w x => if L.testBit w = true then max x (vdf ok W t (vsf ok W t n) (clr L w) M) else x) W 0 := rfl
theorem fo_min_le {p : Nat → Bool} {f : Nat → Nat} {x : Nat} : ∀ v, fo (fun w x => if p w = true then min x (f w) else x) v x ≤ x := by
  intro v
  induction v with
  | zero => exact Nat.le_refl _
  | succ v ih =>
    simp only [fo_s]
    split
    · exact Nat.le_trans (Nat.min_le_left _ _) ih
    · exact ih
theorem fo_max_le {p : Nat → Bool} {f : Nat → Nat} {x B : Nat} (hx : x ≤ B) (hf : ∀ w, f w ≤ B) : ∀ v, fo (fun w x => if p w = true then max x (f w) else x) v x ≤ B := by
  intro v
  induction v with
  | zero => exact hx
  | succ v ih =>
    simp only [fo_s]
    split
    · exact Nat.max_le.mpr ⟨ih, hf v⟩
    · exact ih
theorem vdf_le {ok : zq_I → Nat → Bool} {W B : Nat} {t : Nat → Nat} {f : Nat → zq_I → Nat} (hf : ∀ L M, f L M ≤ B) (L : Nat) (M : zq_I) : vdf ok W t f L M ≤ 20 + B := by
  unfold vdf
  have := hf L (zm_re M)
  exact Nat.le_trans (fo_min_le W) (by omega)
theorem vsf_le {ok : zq_I → Nat → Bool} {W : Nat} {t : Nat → Nat} : ∀ n L M, vsf ok W t n L M ≤ 20 * n := by
  intro n
  induction n with
  | zero => intros; exact Nat.zero_le _
  | succ n ih =>
    intro L M
    rw [vsf_s]
    have hd : ∀ L M, vdf ok W t (vsf ok W t n) L M ≤ 20 * (n + 1) := fun L M => Nat.le_trans (vdf_le ih L M) (by omega)
    split
    · exact hd 0 M
    · exact fo_max_le (Nat.zero_le _) (fun w => hd _ _) W
theorem nI_max {a b : Nat} (ha : a < 2147483648) (hb : b < 2147483648) : (if nI a < nI b then nI b else nI a) = nI (max a b) := by
  by_cases q : a < b
  · rw [if_pos ((nI_ltI (by omega) (by omega)).mpr q), Nat.max_eq_right (by omega)]
  · rw [if_neg (nI_nlt (by omega) (by omega)), Nat.max_eq_left (by omega)]
theorem nI_min {a b : Nat} (ha : a < 2147483648) (hb : b < 2147483648) : (if nI b < nI a then nI b else nI a) = nI (min a b) := by
  by_cases q : b < a
  · rw [if_pos ((nI_ltI (by omega) (by omega)).mpr q), Nat.min_eq_right (by omega)]
  · rw [if_neg (nI_nlt (by omega) (by omega)), Nat.min_eq_left (by omega)]
theorem zb_20 (v : Nat) : (20 : Int32) + nI v = nI (20 + v) := nI_add 20 v
theorem zb_i_inj {p q : Bool} (h : zb_i p = zb_i q) : p = q := by
  cases p <;> cases q <;> first | rfl | (exfalso; revert h; decide)
theorem zb_num_bit {p : Nat → Bool} {W k : Nat} (hW : W ≤ 7) (hk : k < W) : (zb_num p W).testBit k = p k := by
  obtain ⟨z1, z2⟩ := zb_setN (p := p) hW
  have z3 : 2 ^ W ≤ 128 := by
    have := Nat.pow_le_pow_right (n := 2) (by omega) hW
    omega
  have h1 := zb_bit (p := p) hW hk
  rw [z1, zl_b _ (by omega) k (by omega)] at h1
  exact zb_i_inj h1
section Z56
variable {N ca cb cs c d W P D n k w : Nat} {hi C C2 M H K : zq_I} {hl : zq_J} {Q : Option Value → zq_G → Prop} {t : Nat → Nat} {may b0 : Int32}
theorem zc_rb_re : zc_rb (zc_re C 55) 55 (C 55 3) = C := by
  funext a f
  by_cases q5 : a = 55
  · subst q5
    have e : zc_rb (zc_re C 55) 55 (C 55 3) 55 f = if f = 4 then C 55 4 + 20 - 20 else if f = 5 then C 55 5 + 1 - 1 else if f = 3 then C 55 3 else if f = 2 then C 55 2 + 1 - 1 else C 55 f := by
      by_cases f4 : f = 4
      · subst f4; simp [zc_rb, zc_re, zq_u]
      · by_cases f5 : f = 5
        · subst f5; simp [zc_rb, zc_re, zq_u]
        · by_cases f3 : f = 3
          · subst f3; simp [zc_rb, zc_re, zq_u]
          · by_cases f2 : f = 2
            · subst f2; simp [zc_rb, zc_re, zq_u]
            · simp [zc_rb, zc_re, zq_u, f2, f3, f4, f5]
    rw [e]
    by_cases f4 : f = 4
    · subst f4; rw [if_pos rfl]; exact zb_asc _ _
    · rw [if_neg f4]
      by_cases f5 : f = 5
      · subst f5; rw [if_pos rfl]; exact zb_asc _ _
      · rw [if_neg f5]
        by_cases f3 : f = 3
        · subst f3; rw [if_pos rfl]
        · rw [if_neg f3]
          by_cases f2 : f = 2
          · subst f2; rw [if_pos rfl]; exact zb_asc _ _
          · rw [if_neg f2]
  · simp [zc_rb, zc_re, zq_u, q5]
theorem Mok.re (h : Mok W P t M) : Mok W P t (zm_re M) := by
  have f := mfr_re (M := M)
  obtain ⟨⟨h1, h2, h3, h4⟩, h5, h6⟩ := h
  refine ⟨⟨?_, h2, ?_, h4⟩, fun k hk => ?_, fun v hv => ?_⟩
  · rw [f.2.1 _ (by omega) (by omega) (by omega)]; exact h1
  · rw [f.2.1 _ (by omega) (by omega) (by omega)]; exact h3
  · rw [f.1 _ (by omega) (by omega) (by omega)]; exact h5 k hk
  · rw [zm_tr_fr (hi := M) (f.1 _ (by omega) (by omega) (by omega)) (f.1 _ (by omega) (by omega) (by omega))]; exact h6 v hv
theorem zc_re_o {a : Nat} (h : a ≠ 55) : zc_re C 55 a = C a := by
  funext f
  simp [zc_re, zq_u, h]
abbrev cnk (W P : Nat) : zq_I → Nat → Bool := fun M => cano M W P
theorem k_Search_striking (hc : c = 36 ∨ c = 45) : ∀ n, n ≤ 3 → ∀ e, 2 * n ≤ e → ∀ L, L < 128 → ∀ D C M, Cor c W P D C M → Mok W P t M → D + n ≤ 200 → ∀ Q, zq_P (e + 6) 90 0 [.ref 54, .int (nI L), .int (nI n), .retAddr 0, .retAddr 0] [] (zq_SG N, C, hl, zq_HR ca cb c) Q = Q (some (.int (nI (vsf (cnk W P) W t n L M)))) (zq_SG N, C, hl, zq_HR ca cb c) := by
  have hct := zq_Ct_ok (N := N) (ca := ca) (cb := cb) (cs := c) hc
  have hct2 := hct
  unfold zq_Ct at hct2
  have ho := zq_Co_ok (N := N) (ca := ca) (cb := cb) (cs := c) (o := 55) (Or.inr rfl)
  intro n
  induction n with
  | zero =>
    intro _ e _ L hL D C M hcor hM hD Q
    have q0 : ((0 : Int32) < nI 0) = False := eq_false (by decide)
    simp only [zr90_0, zr90_1, zr90_4, zr90_5, zr90_6, zr90_7, zr90_10, zr90_11, zr90_12, zr90_13, zr90_16, zr90_17, zr90_18, zr90_19, zr90_20, zr90_24, zr90_25, zr90_28, zr90_31, zr90_34, zr90_35, zr90_37, zr90_38, zr90_39, zr90_40, zr90_43, zr90_44, zr90_45, zr90_46, zr90_47, zr90_49, zr90_50, zr90_51, zr90_52, zr90_53, zr90_54, zr90_57, zr90_60, zr90_61, zr90_64, zr90_67, zr90_68, zq_kill_int, zq_kill_ref, zq_kill_ret, zq_kill_null, zq_kill_long, zq_rf_some, zq_rf_none, true_and, and_true, true_implies, not_true_eq_false, not_false_eq_true, false_implies, Bool.true_eq_false, Bool.false_eq_true, nI_1, zb_i0, zb_i1, zb_i2, Option.toList_some, Option.toList_none, List.cons_append, List.nil_append, true_or, or_true, implies_true, zb_it, zb_if, zb_10, zb_00, zb_n5, zb_n2, zb_m1, zb_m3, zb_m9, or_true, true_or, or_false, false_or, q0]
    rfl
  | succ n ih =>
    intro hn e he L hL D C M hcor hM hD Q
    obtain ⟨e, rfl⟩ : ∃ e', e = e' + 2 := ⟨e - 2, by omega⟩
    rw [show e + 2 + 6 = e + 8 from rfl]
    obtain ⟨⟨w1, w2, w3, w4, w5, w6⟩, -, wa⟩ := hcor.facts hc
    have z3 : 2 ^ W ≤ 128 := by
      have := Nat.pow_le_pow_right (n := 2) (by omega) w1
      omega
    have q0 : ((0 : Int32) < nI (n + 1)) = True := eq_true (nI_lt (a := 0) (by omega) (by omega))
    have op := fun Q => k_Search_open (N := N) (ca := ca) (cb := cb) (d := e + 2) (hl := hl) (Q := Q) hc hcor
    rw [show e + 2 + 4 = e + 6 from rfl] at op
    have doing : ∀ L, L < 128 → ∀ Q, zq_P (e + 7) 91 0 [.ref 54, .int (nI L), .int (nI (n + 1)), .retAddr 0, .retAddr 0, .retAddr 0, .retAddr 0, .retAddr 0] [] (zq_SG N, C, hl, zq_HR ca cb c) Q = Q (some (.int (nI (vdf (cnk W P) W t (vsf (cnk W P) W t n) L M)))) (zq_SG N, C, hl, zq_HR ca cb c) := by
      intro L hL Q
      obtain ⟨z1, z2⟩ := zb_setN (p := cano M W P) w1
      have eL := zl_and (zb_num (cano M W P) W) (by omega) L hL
      generalize hS : zb_num (cano M W P) W &&& L = S at eL
      have hS8 : S < 128 := by
        have : S ≤ L := by rw [← hS]; exact Nat.and_le_right
        omega
      have hSb : ∀ k, k < W → S.testBit k = (cano M W P k && L.testBit k) := fun k hk => by rw [← hS, Nat.testBit_and, zb_num_bit w1 hk]
      have ihr := fun Q => ih (by omega) e (by omega) L hL (D + 1) _ _ (hcor.re hc (by omega)) hM.re (by omega) Q
      have gor := fun Q => k_Course_goOnR (d := e + 5) (hi := C) (hl := hl) (Q := Q) hct ho
      have bkr := fun Q => k_Course_goBackR (d := e + 5) (hi := zc_re C 55) (hl := hl) (Q := Q) (l := -9) (a := C 55 3) hct ho
      rw [show e + 5 + 1 = e + 6 from rfl] at gor bkr
      have hvs := fun L M => vsf_le (ok := cnk W P) (W := W) (t := t) n L M
      generalize hg : (fun w x => if (cnk W P M w && L.testBit w) = true then min x (t w + vsf (cnk W P) W t n L (zm_go M w)) else x) = g
      have hgo : ∀ w x, S.testBit w = false → w < W → g w x = x := fun w x e hw => by rw [← hg]; exact if_neg (by rw [show (cnk W P M w && L.testBit w) = S.testBit w from (hSb w hw).symm, e]; decide)
      have hgy : ∀ w x, S.testBit w = true → w < W → g w x = min x (t w + vsf (cnk W P) W t n L (zm_go M w)) := fun w x e hw => by rw [← hg]; exact if_pos (by rw [show (cnk W P M w && L.testBit w) = S.testBit w from (hSb w hw).symm, e])
      have hle : ∀ v, fo g v (20 + vsf (cnk W P) W t n L (zm_re M)) ≤ 20 + 20 * n := fun v => by
        rw [← hg]
        have := hvs L (zm_re M)
        exact Nat.le_trans (fo_min_le v) (by omega)
      obtain ⟨v7, -, loop⟩ := zq_loopE (β := Option Value → zq_G → Prop) (n := W) (I := fun _ (_ : Value) => True) (f := fun Q k (v : Value) => zq_P (e + 7) 91 60 [.ref 54, .int (nI L), .int (nI (n + 1)), .int (nI S), .int (C 55 3), .int (nI (fo g k (20 + vsf (cnk W P) W t n L (zm_re M)))), .int (nI k), v] [] (zq_SG N, C, hl, zq_HR ca cb c) Q) (fun k hk v7 _ => by
        have h3 : (nI k < nI W) = True := eq_true ((nI_ltI (by omega) (by omega)).mpr hk)
        have x1 : zq_xS (nI k) 7 := zb_x (by omega) (by omega)
        have x2 : (nI k).toNatClampNeg = k := zb_cl (by omega)
        have hlk := hle k
        cases hb : S.testBit k with
        | false =>
          refine ⟨v7, trivial, fun Q => ?_⟩
          rw [zr91_60]
          simp only [zr91_0, zr91_1, zr91_4, zr91_5, zr91_6, zr91_7, zr91_8, zr91_11, zr91_14, zr91_16, zr91_17, zr91_20, zr91_21, zr91_24, zr91_25, zr91_28, zr91_30, zr91_31, zr91_32, zr91_33, zr91_34, zr91_35, zr91_38, zr91_39, zr91_41, zr91_42, zr91_45, zr91_46, zr91_49, zr91_50, zr91_52, zr91_54, zr91_57, zr91_58, zr91_62, zr91_63, zr91_66, zr91_69, zr91_72, zr91_73, zr91_75, zr91_76, zr91_77, zr91_78, zr91_81, zr91_84, zr91_85, zr91_88, zr91_91, zr91_93, zr91_94, zr91_96, zr91_97, zr91_100, zr91_101, zr91_104, zr91_106, zr91_109, zr91_111, zr91_112, zr91_115, zr91_118, zr91_120, zr91_121, zr91_122, zr91_123, zr91_124, zr91_125, zr91_126, zr91_129, zr91_130, zr91_133, zr91_135, zr91_136, zr91_139, zr91_140, zr91_143, zr91_145, zr91_147, zr91_149, zr91_152, zr91_155, zr91_158, zr91_160, zs_q0 N, zh_q0 ca cb c, hct.1, zq_kill_int, zq_kill_ref, zq_kill_ret, zq_kill_null, zq_kill_long, zq_rf_some, zq_rf_none, true_and, and_true, true_implies, not_true_eq_false, not_false_eq_true, false_implies, Bool.true_eq_false, Bool.false_eq_true, nI_1, zb_i0, zb_i1, zb_i2, Option.toList_some, Option.toList_none, List.cons_append, List.nil_append, true_or, or_true, implies_true, zb_it, zb_if, zb_10, zb_00, zb_n5, zb_n2, zb_m1, zb_m3, zb_m9, or_true, true_or, or_false, false_or, w3, h3, zl_b S hS8 k (show k < 7 by omega), hb, fo_s, hgo k _ hb hk]
        | true =>
          obtain ⟨g1, g2⟩ := hM.2.2 k hk
          have ihk := fun Q => ih (by omega) e (by omega) L hL (D + 1) _ _ (hcor.go hc hk (by omega)) (hM.go hk) (by omega) Q
          have go := fun Q => k_Course_goOn (d := e + 5) (hi := C) (hl := hl) (Q := Q) hct ho (by omega) w3 w1 hk
          have bk := fun Q => k_Course_goBack (d := e + 5) (hi := zc_go C c 55 k) (hl := hl) (Q := Q) (l := C 56 k) (a := C 55 3) hct ho (by omega) (W := W) (by rw [zc_go_o (by omega)]; exact w3) w1 hk
          rw [show e + 5 + 1 = e + 6 from rfl] at go bk
          have c6 : zc_go C c 55 k (c + 6) k = nI (t k) := by rw [zc_go_o (by omega), (wa k hk).1]; exact g1
          have hvk := hvs L (zm_go M k)
          refine ⟨.int (C 56 k), trivial, fun Q => ?_⟩
          rw [zr91_60]
          simp only [zr91_0, zr91_1, zr91_4, zr91_5, zr91_6, zr91_7, zr91_8, zr91_11, zr91_14, zr91_16, zr91_17, zr91_20, zr91_21, zr91_24, zr91_25, zr91_28, zr91_30, zr91_31, zr91_32, zr91_33, zr91_34, zr91_35, zr91_38, zr91_39, zr91_41, zr91_42, zr91_45, zr91_46, zr91_49, zr91_50, zr91_52, zr91_54, zr91_57, zr91_58, zr91_62, zr91_63, zr91_66, zr91_69, zr91_72, zr91_73, zr91_75, zr91_76, zr91_77, zr91_78, zr91_81, zr91_84, zr91_85, zr91_88, zr91_91, zr91_93, zr91_94, zr91_96, zr91_97, zr91_100, zr91_101, zr91_104, zr91_106, zr91_109, zr91_111, zr91_112, zr91_115, zr91_118, zr91_120, zr91_121, zr91_122, zr91_123, zr91_124, zr91_125, zr91_126, zr91_129, zr91_130, zr91_133, zr91_135, zr91_136, zr91_139, zr91_140, zr91_143, zr91_145, zr91_147, zr91_149, zr91_152, zr91_155, zr91_158, zr91_160, zs_q0 N, zh_q0 ca cb c, hct2, zq_kill_int, zq_kill_ref, zq_kill_ret, zq_kill_null, zq_kill_long, zq_rf_some, zq_rf_none, true_and, and_true, true_implies, not_true_eq_false, not_false_eq_true, false_implies, Bool.true_eq_false, Bool.false_eq_true, nI_1, zb_i0, zb_i1, zb_i2, Option.toList_some, Option.toList_none, List.cons_append, List.nil_append, true_or, or_true, implies_true, zb_it, zb_if, zb_10, zb_00, zb_n5, zb_n2, zb_m1, zb_m3, zb_m9, or_true, true_or, or_false, false_or, w3, h3, x1, x2, zl_b S hS8 k (show k < 7 by omega), hb, fo_s, hgy k _ hb hk, go, c6, nI_pred, ihk, nI_add, nI_min (show fo g k (20 + vsf (cnk W P) W t n L (zm_re M)) < 2147483648 by omega) (show t k + vsf (cnk W P) W t n L (zm_go M k) < 2147483648 by omega), bk, zc_bk_go hc]) (.retAddr 0) trivial
      have fW : (nI W < nI W) = False := eq_false (nI_nlt (Nat.le_refl _) (by omega))
      have lp : zq_P (e + 7) 91 60 [.ref 54, .int (nI L), .int (nI (n + 1)), .int (nI S), .int (C 55 3), .int (nI (20 + vsf (cnk W P) W t n L (zm_re M))), .int 0, .retAddr 0] [] (zq_SG N, C, hl, zq_HR ca cb c) Q = _ := loop Q
      simp only [zr91_0, zr91_1, zr91_4, zr91_5, zr91_6, zr91_7, zr91_8, zr91_11, zr91_14, zr91_16, zr91_17, zr91_20, zr91_21, zr91_24, zr91_25, zr91_28, zr91_30, zr91_31, zr91_32, zr91_33, zr91_34, zr91_35, zr91_38, zr91_39, zr91_41, zr91_42, zr91_45, zr91_46, zr91_49, zr91_50, zr91_52, zr91_54, zr91_57, zr91_58, zr91_62, zr91_63, zr91_66, zr91_69, zr91_72, zr91_73, zr91_75, zr91_76, zr91_77, zr91_78, zr91_81, zr91_84, zr91_85, zr91_88, zr91_91, zr91_93, zr91_94, zr91_96, zr91_97, zr91_100, zr91_101, zr91_104, zr91_106, zr91_109, zr91_111, zr91_112, zr91_115, zr91_118, zr91_120, zr91_121, zr91_122, zr91_123, zr91_124, zr91_125, zr91_126, zr91_129, zr91_130, zr91_133, zr91_135, zr91_136, zr91_139, zr91_140, zr91_143, zr91_145, zr91_147, zr91_149, zr91_152, zr91_155, zr91_158, zr91_160, zs_q0 N, zh_q0 ca cb c, hct.1, ho.1, zq_kill_int, zq_kill_ref, zq_kill_ret, zq_kill_null, zq_kill_long, zq_rf_some, zq_rf_none, true_and, and_true, true_implies, not_true_eq_false, not_false_eq_true, false_implies, Bool.true_eq_false, Bool.false_eq_true, nI_1, zb_i0, zb_i1, zb_i2, Option.toList_some, Option.toList_none, List.cons_append, List.nil_append, true_or, or_true, implies_true, zb_it, zb_if, zb_10, zb_00, zb_n5, zb_n2, zb_m1, zb_m3, zb_m9, or_true, true_or, or_false, false_or, op, z1, eL, gor, nI_pred, ihr, zb_20, bkr, zc_rb_re]
      refine Eq.trans lp ?_
      rw [zr91_60]
      simp only [zr91_0, zr91_1, zr91_4, zr91_5, zr91_6, zr91_7, zr91_8, zr91_11, zr91_14, zr91_16, zr91_17, zr91_20, zr91_21, zr91_24, zr91_25, zr91_28, zr91_30, zr91_31, zr91_32, zr91_33, zr91_34, zr91_35, zr91_38, zr91_39, zr91_41, zr91_42, zr91_45, zr91_46, zr91_49, zr91_50, zr91_52, zr91_54, zr91_57, zr91_58, zr91_62, zr91_63, zr91_66, zr91_69, zr91_72, zr91_73, zr91_75, zr91_76, zr91_77, zr91_78, zr91_81, zr91_84, zr91_85, zr91_88, zr91_91, zr91_93, zr91_94, zr91_96, zr91_97, zr91_100, zr91_101, zr91_104, zr91_106, zr91_109, zr91_111, zr91_112, zr91_115, zr91_118, zr91_120, zr91_121, zr91_122, zr91_123, zr91_124, zr91_125, zr91_126, zr91_129, zr91_130, zr91_133, zr91_135, zr91_136, zr91_139, zr91_140, zr91_143, zr91_145, zr91_147, zr91_149, zr91_152, zr91_155, zr91_158, zr91_160, zs_q0 N, zh_q0 ca cb c, hct.1, zq_kill_int, zq_kill_ref, zq_kill_ret, zq_kill_null, zq_kill_long, zq_rf_some, zq_rf_none, true_and, and_true, true_implies, not_true_eq_false, not_false_eq_true, false_implies, Bool.true_eq_false, Bool.false_eq_true, nI_1, zb_i0, zb_i1, zb_i2, Option.toList_some, Option.toList_none, List.cons_append, List.nil_append, true_or, or_true, implies_true, zb_it, zb_if, zb_10, zb_00, zb_n5, zb_n2, zb_m1, zb_m3, zb_m9, or_true, true_or, or_false, false_or, w3, fW]
      unfold vdf
      rw [hg]
    have hvd := fun L M => vdf_le (ok := cnk W P) (W := W) (t := t) (B := 20 * n) (f := vsf (cnk W P) W t n) (vsf_le n) L M
    by_cases hL0 : L = 0
    · subst hL0
      have d0 : ∀ Q, zq_P (e + 7) 91 0 [.ref 54, .int 0, .int (nI (n + 1)), .retAddr 0, .retAddr 0, .retAddr 0, .retAddr 0, .retAddr 0] [] (zq_SG N, C, hl, zq_HR ca cb c) Q = _ := doing 0 (by omega)
      have e0 : (nI 0 = 0) = True := eq_true rfl
      rw [vsf_s, if_pos rfl]
      simp only [zr90_0, zr90_1, zr90_4, zr90_5, zr90_6, zr90_7, zr90_10, zr90_11, zr90_12, zr90_13, zr90_16, zr90_17, zr90_18, zr90_19, zr90_20, zr90_24, zr90_25, zr90_28, zr90_31, zr90_34, zr90_35, zr90_37, zr90_38, zr90_39, zr90_40, zr90_43, zr90_44, zr90_45, zr90_46, zr90_47, zr90_49, zr90_50, zr90_51, zr90_52, zr90_53, zr90_54, zr90_57, zr90_60, zr90_61, zr90_64, zr90_67, zr90_68, zq_kill_int, zq_kill_ref, zq_kill_ret, zq_kill_null, zq_kill_long, zq_rf_some, zq_rf_none, true_and, and_true, true_implies, not_true_eq_false, not_false_eq_true, false_implies, Bool.true_eq_false, Bool.false_eq_true, nI_1, zb_i0, zb_i1, zb_i2, Option.toList_some, Option.toList_none, List.cons_append, List.nil_append, true_or, or_true, implies_true, zb_it, zb_if, zb_10, zb_00, zb_n5, zb_n2, zb_m1, zb_m3, zb_m9, or_true, true_or, or_false, false_or, q0, e0, d0]
    · have e0 : (nI L = 0) = False := eq_false (nI_ne0 (by omega) (by omega))
      rw [vsf_s, if_neg hL0]
      have loop := zq_loop (n := W) (f := fun k => zq_P (e + 8) 90 22 [.ref 54, .int (nI L), .int (nI (n + 1)), .int (nI (fo (fun w x => if L.testBit w = true then max x (vdf (cnk W P) W t (vsf (cnk W P) W t n) (clr L w) M) else x) k 0)), .int (nI k)] [] (zq_SG N, C, hl, zq_HR ca cb c) Q) fun k hk => by
        have h3 : (nI k < nI W) = True := eq_true ((nI_ltI (by omega) (by omega)).mpr hk)
        have hmx : fo (fun w x => if L.testBit w = true then max x (vdf (cnk W P) W t (vsf (cnk W P) W t n) (clr L w) M) else x) k 0 ≤ 20 + 20 * n := fo_max_le (Nat.zero_le _) (fun w => hvd _ _) k
        obtain ⟨c1, c2⟩ := zl_clr L hL k (by omega)
        have hv := hvd (clr L k) M
        rw [zr90_22]
        cases hb : L.testBit k with
        | false =>
          simp only [zr90_0, zr90_1, zr90_4, zr90_5, zr90_6, zr90_7, zr90_10, zr90_11, zr90_12, zr90_13, zr90_16, zr90_17, zr90_18, zr90_19, zr90_20, zr90_24, zr90_25, zr90_28, zr90_31, zr90_34, zr90_35, zr90_37, zr90_38, zr90_39, zr90_40, zr90_43, zr90_44, zr90_45, zr90_46, zr90_47, zr90_49, zr90_50, zr90_51, zr90_52, zr90_53, zr90_54, zr90_57, zr90_60, zr90_61, zr90_64, zr90_67, zr90_68, zs_q0 N, zh_q0 ca cb c, hct.1, zq_kill_int, zq_kill_ref, zq_kill_ret, zq_kill_null, zq_kill_long, zq_rf_some, zq_rf_none, true_and, and_true, true_implies, not_true_eq_false, not_false_eq_true, false_implies, Bool.true_eq_false, Bool.false_eq_true, nI_1, zb_i0, zb_i1, zb_i2, Option.toList_some, Option.toList_none, List.cons_append, List.nil_append, true_or, or_true, implies_true, zb_it, zb_if, zb_10, zb_00, zb_n5, zb_n2, zb_m1, zb_m3, zb_m9, or_true, true_or, or_false, false_or, w3, h3, zl_b L hL k (show k < 7 by omega), hb, fo_s]
          simp
        | true =>
          simp only [zr90_0, zr90_1, zr90_4, zr90_5, zr90_6, zr90_7, zr90_10, zr90_11, zr90_12, zr90_13, zr90_16, zr90_17, zr90_18, zr90_19, zr90_20, zr90_24, zr90_25, zr90_28, zr90_31, zr90_34, zr90_35, zr90_37, zr90_38, zr90_39, zr90_40, zr90_43, zr90_44, zr90_45, zr90_46, zr90_47, zr90_49, zr90_50, zr90_51, zr90_52, zr90_53, zr90_54, zr90_57, zr90_60, zr90_61, zr90_64, zr90_67, zr90_68, zs_q0 N, zh_q0 ca cb c, hct.1, zq_kill_int, zq_kill_ref, zq_kill_ret, zq_kill_null, zq_kill_long, zq_rf_some, zq_rf_none, true_and, and_true, true_implies, not_true_eq_false, not_false_eq_true, false_implies, Bool.true_eq_false, Bool.false_eq_true, nI_1, zb_i0, zb_i1, zb_i2, Option.toList_some, Option.toList_none, List.cons_append, List.nil_append, true_or, or_true, implies_true, zb_it, zb_if, zb_10, zb_00, zb_n5, zb_n2, zb_m1, zb_m3, zb_m9, or_true, true_or, or_false, false_or, w3, h3, zl_b L hL k (show k < 7 by omega), hb, fo_s, if_true, c1, doing (clr L k) (show clr L k < 128 by omega)]
          rw [nI_max (by omega) (by omega)]
      have fW : (nI W < nI W) = False := eq_false (nI_nlt (Nat.le_refl _) (by omega))
      have lp : zq_P (e + 8) 90 22 [.ref 54, .int (nI L), .int (nI (n + 1)), .int 0, .int 0] [] (zq_SG N, C, hl, zq_HR ca cb c) Q = _ := loop
      simp only [zr90_0, zr90_1, zr90_4, zr90_5, zr90_6, zr90_7, zr90_10, zr90_11, zr90_12, zr90_13, zr90_16, zr90_17, zr90_18, zr90_19, zr90_20, zr90_24, zr90_25, zr90_28, zr90_31, zr90_34, zr90_35, zr90_37, zr90_38, zr90_39, zr90_40, zr90_43, zr90_44, zr90_45, zr90_46, zr90_47, zr90_49, zr90_50, zr90_51, zr90_52, zr90_53, zr90_54, zr90_57, zr90_60, zr90_61, zr90_64, zr90_67, zr90_68, zq_kill_int, zq_kill_ref, zq_kill_ret, zq_kill_null, zq_kill_long, zq_rf_some, zq_rf_none, true_and, and_true, true_implies, not_true_eq_false, not_false_eq_true, false_implies, Bool.true_eq_false, Bool.false_eq_true, nI_1, zb_i0, zb_i1, zb_i2, Option.toList_some, Option.toList_none, List.cons_append, List.nil_append, true_or, or_true, implies_true, zb_it, zb_if, zb_10, zb_00, zb_n5, zb_n2, zb_m1, zb_m3, zb_m9, or_true, true_or, or_false, false_or, q0, e0]
      refine Eq.trans lp ?_
      rw [zr90_22]
      simp only [zr90_0, zr90_1, zr90_4, zr90_5, zr90_6, zr90_7, zr90_10, zr90_11, zr90_12, zr90_13, zr90_16, zr90_17, zr90_18, zr90_19, zr90_20, zr90_24, zr90_25, zr90_28, zr90_31, zr90_34, zr90_35, zr90_37, zr90_38, zr90_39, zr90_40, zr90_43, zr90_44, zr90_45, zr90_46, zr90_47, zr90_49, zr90_50, zr90_51, zr90_52, zr90_53, zr90_54, zr90_57, zr90_60, zr90_61, zr90_64, zr90_67, zr90_68, zs_q0 N, zh_q0 ca cb c, hct.1, zq_kill_int, zq_kill_ref, zq_kill_ret, zq_kill_null, zq_kill_long, zq_rf_some, zq_rf_none, true_and, and_true, true_implies, not_true_eq_false, not_false_eq_true, false_implies, Bool.true_eq_false, Bool.false_eq_true, nI_1, zb_i0, zb_i1, zb_i2, Option.toList_some, Option.toList_none, List.cons_append, List.nil_append, true_or, or_true, implies_true, zb_it, zb_if, zb_10, zb_00, zb_n5, zb_n2, zb_m1, zb_m3, zb_m9, or_true, true_or, or_false, false_or, w3, fW]
end Z56
