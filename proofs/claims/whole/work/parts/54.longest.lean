/-! longest -/
abbrev fxT : Type := Nat × (Nat → Nat)
def en2 (a : fxT) (k : Nat) (π : Nat → Nat) : fxT := if a.1 < k then (k, π) else a
def fx (ok : zq_I → Nat → Bool) (W : Nat) : Nat → Nat → zq_I → (Nat → Nat) → fxT → fxT
  | 0, _, _, _, a => a
  | m + 1, k, M, π, a => fo (fun w a => if ok M w = true then fx ok W m (k + 1) (zm_go M w) (upn π k w) (en2 a (k + 1) (upn π k w)) else a) W a
theorem fx_s (ok : zq_I → Nat → Bool) (W m k : Nat) (M : zq_I) (π : Nat → Nat) (a : fxT) : fx ok W (m + 1) k M π a = fo (fun w a => if ok M w = true then fx ok W m (k + 1) (zm_go M w) (upn π k w) (en2 a (k + 1) (upn π k w)) else a) W a := rfl
theorem ent_3 (a : exT) (k : Nat) (π : Nat → Nat) : (ent a k π).2.2 = en2 a.2.2 k π := by
  unfold ent en2
  split <;> rfl
theorem ex_3 {ok : zq_I → Nat → Bool} {W : Nat} {t : Nat → Nat} : ∀ m k M s π a, (ex ok W t m k M s π a).2.2 = fx ok W m k M π a.2.2 := by
  intro m
  induction m with
  | zero => intro k M s π a; rfl
  | succ m ih =>
    intro k M s π a
    rw [ex_s, fx_s]
    have key : ∀ v, (fo (fun w a => if ok M w = true then ex ok W t m (k + 1) (zm_go M w) (s + t w) (upn π k w) (ent a (k + 1) (upn π k w)) else a) v a).2.2 = fo (fun w a => if ok M w = true then fx ok W m (k + 1) (zm_go M w) (upn π k w) (en2 a (k + 1) (upn π k w)) else a) v a.2.2 := by
      intro v
      induction v with
      | zero => rfl
      | succ v ihv =>
        simp only [fo_s]
        by_cases e : ok M v = true
        · rw [if_pos e, if_pos e, ih, ent_3, ihv]
        · rw [if_neg e, if_neg e, ihv]
    exact key W
theorem fo_fix {α : Type} {g : Nat → α → α} {b : α} (hg : ∀ w, g w b = b) : ∀ v, fo g v b = b := by
  intro v
  induction v with
  | zero => rfl
  | succ v ih => rw [fo_s, ih, hg]
theorem fo_from {α : Type} {g : Nat → α → α} {a : α} {v : Nat} (hg : ∀ w, g w (fo g v a) = fo g v a) : ∀ u, fo g (v + u) a = fo g v a := by
  intro u
  induction u with
  | zero => rfl
  | succ u ih => rw [show v + (u + 1) = (v + u) + 1 from rfl, fo_s, ih, hg]
theorem fx_skip {ok : zq_I → Nat → Bool} {W : Nat} : ∀ m k M π (a : fxT), k + m ≤ a.1 → fx ok W m k M π a = a := by
  intro m
  induction m with
  | zero => intros; rfl
  | succ m ih =>
    intro k M π a h
    rw [fx_s]
    refine fo_fix (fun w => ?_) W
    have e : en2 a (k + 1) (upn π k w) = a := if_neg (by omega)
    rw [e]
    split
    · exact ih _ _ _ _ (by omega)
    · rfl
def LR (C : zq_I) (a : fxT) : Prop := C 54 6 = nI a.1 ∧ a.1 ≤ 6 ∧ ∀ j, j < a.1 → C 59 j = nI (a.2 j)
section Z54
variable {N ca cb cs c d W P D n k w ch : Nat} {hi C C2 M H K : zq_I} {hl : zq_J} {Q : Option Value → zq_G → Prop} {t : Nat → Nat} {may b0 : Int32}
theorem LR_fr {a : fxT} (h : LR C a) (e1 : C2 54 6 = C 54 6) (e2 : C2 59 = C 59) : LR C2 a := by
  unfold LR at h ⊢
  rw [e1, e2]
  exact h
/-- entering a depth -/
theorem k_Search_longest_in {a : fxT} {π : Nat → Nat} (hk : k ≤ 6) (hp : ∀ j, j < k → C 58 j = nI (π j)) (h : LR C a ∨ C 54 6 = (-9) ∧ a = (k, π)) : ∃ C1, qfr C C1 ∧ C1 58 = C 58 ∧ LR C1 (en2 a k π) ∧ ∀ Q, zq_P (d + 1) 75 0 [.ref 54, .int (nI k), .retAddr 0, .retAddr 0, .retAddr 0, .retAddr 0] [] (zq_SG N, C, hl, zq_HR ca cb cs) Q = zq_P (d + 1) 75 13 [.ref 54, .int (nI k), .retAddr 0, .retAddr 0, .retAddr 0, .retAddr 0] [] (zq_SG N, C1, hl, zq_HR ca cb cs) Q := by
  have take : (C 54 6 < nI k) = True → en2 a k π = (k, π) → ∃ C1, qfr C C1 ∧ C1 58 = C 58 ∧ LR C1 (en2 a k π) ∧ ∀ Q, zq_P (d + 1) 75 0 [.ref 54, .int (nI k), .retAddr 0, .retAddr 0, .retAddr 0, .retAddr 0] [] (zq_SG N, C, hl, zq_HR ca cb cs) Q = zq_P (d + 1) 75 13 [.ref 54, .int (nI k), .retAddr 0, .retAddr 0, .retAddr 0, .retAddr 0] [] (zq_SG N, C1, hl, zq_HR ca cb cs) Q := by
    intro hlt he
    refine ⟨zq_w (zq_u C 54 6 (nI k)) 59 (va_cpy (C 58) (C 59) 0 0 6), qfr_kp, ?_, ?_, fun Q => ?_⟩
    · rw [zq_w_ne (by omega), zq_u_ne (by omega)]
    · rw [he]
      refine ⟨?_, hk, fun j hj => ?_⟩
      · rw [zq_w_ne (by omega), zq_u_eq]
      · dsimp only at hj
        rw [zq_w_eq, pk_cpy_in (by omega) (by omega), show 0 + (j - 0) = j by omega]; exact hp j hj
    · simp only [zr75_0, zr75_1, zr75_2, zr75_5, zr75_8, zr75_9, zr75_10, zr75_14, zr75_16, zr75_19, zr75_20, zr75_21, zr75_24, zr75_25, zr75_26, zr75_28, zr75_29, zr75_32, zr75_35, zr75_38, zr75_39, zr75_42, zr75_44, zr75_47, zr75_48, zr75_49, zr75_50, zr75_51, zr75_52, zr75_55, zr75_58, zr75_59, zr75_62, zr75_65, zr75_66, zr75_67, zr75_69, zr75_70, zr75_73, zr75_76, zr75_78, zr75_79, zr75_82, zr75_83, zr75_84, zr75_85, zr75_86, zr75_89, zr75_90, zr75_93, zr75_94, zr75_97, zr75_98, zr75_99, zr75_100, zr75_101, zr75_104, zr75_105, zr75_108, zr75_109, zr75_112, zr75_113, zr75_115, zr75_117, zr75_120, zr75_123, zr75_126, zs_q0 N, zh_q0 ca cb cs, zq_kill_int, zq_kill_ref, zq_kill_ret, zq_kill_null, zq_kill_long, zq_rf_some, zq_rf_none, true_and, and_true, true_implies, not_true_eq_false, not_false_eq_true, false_implies, Bool.true_eq_false, Bool.false_eq_true, nI_1, zb_i0, zb_i1, zb_i2, Option.toList_some, Option.toList_none, List.cons_append, List.nil_append, true_or, or_true, implies_true, zb_it, zb_if, zb_10, zb_00, zb_n5, zb_n2, zb_m1, zb_m3, zb_m9, or_true, true_or, or_false, false_or, hlt, k_Search_keepPath]
  rcases h with h | ⟨h1, h2⟩
  · by_cases q : a.1 < k
    · exact take (by rw [h.1]; exact eq_true ((nI_ltI (by have := h.2.1; omega) (by omega)).mpr q)) (if_pos q)
    · have e : en2 a k π = a := if_neg q
      have hlt : (C 54 6 < nI k) = False := by rw [h.1]; exact eq_false (nI_nlt (by omega) (by have := h.2.1; omega))
      refine ⟨C, qfr_rfl C, rfl, ?_, fun Q => ?_⟩
      · rw [e]; exact h
      · simp only [zr75_0, zr75_1, zr75_2, zr75_5, zr75_8, zr75_9, zr75_10, zr75_14, zr75_16, zr75_19, zr75_20, zr75_21, zr75_24, zr75_25, zr75_26, zr75_28, zr75_29, zr75_32, zr75_35, zr75_38, zr75_39, zr75_42, zr75_44, zr75_47, zr75_48, zr75_49, zr75_50, zr75_51, zr75_52, zr75_55, zr75_58, zr75_59, zr75_62, zr75_65, zr75_66, zr75_67, zr75_69, zr75_70, zr75_73, zr75_76, zr75_78, zr75_79, zr75_82, zr75_83, zr75_84, zr75_85, zr75_86, zr75_89, zr75_90, zr75_93, zr75_94, zr75_97, zr75_98, zr75_99, zr75_100, zr75_101, zr75_104, zr75_105, zr75_108, zr75_109, zr75_112, zr75_113, zr75_115, zr75_117, zr75_120, zr75_123, zr75_126, zs_q0 N, zh_q0 ca cb cs, zq_kill_int, zq_kill_ref, zq_kill_ret, zq_kill_null, zq_kill_long, zq_rf_some, zq_rf_none, true_and, and_true, true_implies, not_true_eq_false, not_false_eq_true, false_implies, Bool.true_eq_false, Bool.false_eq_true, nI_1, zb_i0, zb_i1, zb_i2, Option.toList_some, Option.toList_none, List.cons_append, List.nil_append, true_or, or_true, implies_true, zb_it, zb_if, zb_10, zb_00, zb_n5, zb_n2, zb_m1, zb_m3, zb_m9, or_true, true_or, or_false, false_or, hlt]
  · refine take (eq_true ?_) ?_
    · rw [h1]
      by_cases e : k = 0
      · subst e; decide
      · exact Int32.lt_trans (show (-9 : Int32) < 0 by decide) (nI_lt (a := 0) (by omega) (by omega))
    · rw [h2]
      unfold en2
      split <;> rfl
theorem k_Search_longest_go (hc : c = 36 ∨ c = 45) : ∀ m k, k + m = 6 → ∀ e, m ≤ e → ∀ D C M π a, Cor c W P D C M → D + m ≤ 200 → (∀ j, j < k → C 58 j = nI (π j)) → LR C a →
    ∃ C', qfr C C' ∧ (∀ j, j < k → C' 58 j = C 58 j) ∧ LR C' (fx (okm W P 7) W m k M π a) ∧ ∀ Q, zq_P (e + 5) 75 13 [.ref 54, .int (nI k), .retAddr 0, .retAddr 0, .retAddr 0, .retAddr 0] [] (zq_SG N, C, hl, zq_HR ca cb c) Q = Q none (zq_SG N, C', hl, zq_HR ca cb c) := by
  have hct := zq_Ct_ok (N := N) (ca := ca) (cb := cb) (cs := c) hc
  have ho := zq_Co_ok (N := N) (ca := ca) (cb := cb) (cs := c) (o := 55) (Or.inr rfl)
  intro m
  induction m with
  | zero =>
    intro k hk e _ D C M π a hcor hD hp ha
    have q6 : (nI k < 6) = False := eq_false (nI_nlt (b := 6) (by omega) (by omega))
    refine ⟨C, qfr_rfl C, fun _ _ => rfl, ha, fun Q => ?_⟩
    simp only [zr75_0, zr75_1, zr75_2, zr75_5, zr75_8, zr75_9, zr75_10, zr75_13, zr75_14, zr75_16, zr75_19, zr75_20, zr75_21, zr75_24, zr75_25, zr75_26, zr75_28, zr75_29, zr75_32, zr75_35, zr75_38, zr75_39, zr75_42, zr75_44, zr75_47, zr75_48, zr75_49, zr75_50, zr75_51, zr75_52, zr75_55, zr75_58, zr75_59, zr75_62, zr75_65, zr75_66, zr75_67, zr75_69, zr75_70, zr75_73, zr75_76, zr75_78, zr75_79, zr75_82, zr75_83, zr75_84, zr75_85, zr75_86, zr75_89, zr75_90, zr75_93, zr75_94, zr75_97, zr75_98, zr75_99, zr75_100, zr75_101, zr75_104, zr75_105, zr75_108, zr75_109, zr75_112, zr75_113, zr75_115, zr75_117, zr75_120, zr75_123, zr75_126, zq_kill_int, zq_kill_ref, zq_kill_ret, zq_kill_null, zq_kill_long, zq_rf_some, zq_rf_none, true_and, and_true, true_implies, not_true_eq_false, not_false_eq_true, false_implies, Bool.true_eq_false, Bool.false_eq_true, nI_1, zb_i0, zb_i1, zb_i2, Option.toList_some, Option.toList_none, List.cons_append, List.nil_append, true_or, or_true, implies_true, zb_it, zb_if, zb_10, zb_00, zb_n5, zb_n2, zb_m1, zb_m3, zb_m9, or_true, true_or, or_false, false_or, q6]
  | succ m ih =>
    intro k hk e he D C M π a hcor hD hp ha
    obtain ⟨e, rfl⟩ : ∃ e', e = e' + 1 := ⟨e - 1, by omega⟩
    rw [show e + 1 + 5 = e + 6 from rfl]
    obtain ⟨⟨w1, w2, w3, w4, w5, w6⟩, -, wa⟩ := hcor.facts hc
    have q6 : (nI k < 6) = True := eq_true ((nI_ltI (b := 6) (by omega) (by omega)).mpr (by omega))
    have op := fun Q => k_Search_open7 (N := N) (ca := ca) (cb := cb) (d := e + 1) (hl := hl) (Q := Q) hc hcor
    rw [show e + 1 + 4 = e + 5 from rfl] at op
    have xk1 : zq_xS (nI k) 6 := zb_x (by omega) (by omega)
    have xk2 : (nI k).toNatClampNeg = k := zb_cl (by omega)
    generalize hg : (fun w a => if okm W P 7 M w = true then fx (okm W P 7) W m (k + 1) (zm_go M w) (upn π k w) (en2 a (k + 1) (upn π k w)) else a) = g
    have hgo : ∀ w b, okm W P 7 M w = false → g w b = b := fun w b e => by rw [← hg]; exact if_neg (by rw [e]; decide)
    have hgy : ∀ w b, okm W P 7 M w = true → g w b = fx (okm W P 7) W m (k + 1) (zm_go M w) (upn π k w) (en2 b (k + 1) (upn π k w)) := fun w b e => by rw [← hg]; exact if_pos e
    have hex : fx (okm W P 7) W (m + 1) k M π a = fo g W a := by rw [← hg]; rfl
    have hsk : ∀ b : fxT, 6 ≤ b.1 → ∀ w, g w b = b := fun b hb w => by
      cases q : okm W P 7 M w with
      | false => exact hgo w b q
      | true =>
        rw [hgy w b q]
        have e : en2 b (k + 1) (upn π k w) = b := if_neg (by omega)
        rw [e]
        exact fx_skip _ _ _ _ _ (by omega)
    rw [hex]
    have inner : ∀ u, u ≤ W → ∀ (Cv : zq_I) (v4 v5 : Value), qfr C Cv → (∀ j, j < k → Cv 58 j = C 58 j) → LR Cv (fo g (W - u) a) → ∃ C', qfr C C' ∧ (∀ j, j < k → C' 58 j = C 58 j) ∧ LR C' (fo g W a) ∧ ∀ Q, zq_P (e + 6) 75 27 [.ref 54, .int (nI k), .int (zb_set (okm W P 7 M) W), .int (nI (W - u)), v4, v5] [] (zq_SG N, Cv, hl, zq_HR ca cb c) Q = Q none (zq_SG N, C', hl, zq_HR ca cb c) := by
      intro u
      induction u with
      | zero =>
        intro _ Cv v4 v5 j1 j2 j3
        have fW : (nI (W - 0) < nI W) = False := eq_false (nI_nlt (by omega) (by omega))
        have cw : Cv c 10 = nI W := by rw [j1.1 c (by omega) (by omega) (by omega)]; exact w3
        refine ⟨Cv, j1, j2, j3, fun Q => ?_⟩
        rw [zr75_27]
        simp only [zr75_0, zr75_1, zr75_2, zr75_5, zr75_8, zr75_9, zr75_10, zr75_13, zr75_14, zr75_16, zr75_19, zr75_20, zr75_21, zr75_24, zr75_25, zr75_26, zr75_28, zr75_29, zr75_32, zr75_35, zr75_38, zr75_39, zr75_42, zr75_44, zr75_47, zr75_48, zr75_49, zr75_50, zr75_51, zr75_52, zr75_55, zr75_58, zr75_59, zr75_62, zr75_65, zr75_66, zr75_67, zr75_69, zr75_70, zr75_73, zr75_76, zr75_78, zr75_79, zr75_82, zr75_83, zr75_84, zr75_85, zr75_86, zr75_89, zr75_90, zr75_93, zr75_94, zr75_97, zr75_98, zr75_99, zr75_100, zr75_101, zr75_104, zr75_105, zr75_108, zr75_109, zr75_112, zr75_113, zr75_115, zr75_117, zr75_120, zr75_123, zr75_126, zs_q0 N, zh_q0 ca cb c, hct.1, zq_kill_int, zq_kill_ref, zq_kill_ret, zq_kill_null, zq_kill_long, zq_rf_some, zq_rf_none, true_and, and_true, true_implies, not_true_eq_false, not_false_eq_true, false_implies, Bool.true_eq_false, Bool.false_eq_true, nI_1, zb_i0, zb_i1, zb_i2, Option.toList_some, Option.toList_none, List.cons_append, List.nil_append, true_or, or_true, implies_true, zb_it, zb_if, zb_10, zb_00, zb_n5, zb_n2, zb_m1, zb_m3, zb_m9, or_true, true_or, or_false, false_or, cw, fW]
      | succ u ihu =>
        intro hu Cv v4 v5 j1 j2 j3
        generalize hv0 : W - (u + 1) = v at j3
        have hv : v < W := by omega
        have hvu : W - u = v + 1 := by omega
        have h3 : (nI v < nI W) = True := eq_true ((nI_ltI (by omega) (by omega)).mpr hv)
        have x1 : zq_xS (nI v) 7 := zb_x (by omega) (by omega)
        have x2 : (nI v).toNatClampNeg = v := zb_cl (by omega)
        have cw : Cv c 10 = nI W := by rw [j1.1 c (by omega) (by omega) (by omega)]; exact w3
        by_cases hf : 6 ≤ (fo g v a).1
        · have f6 : (Cv 54 6 < 6) = False := by rw [j3.1]; exact eq_false (nI_nlt (b := 6) hf (by have := j3.2.1; omega))
          have hfo : fo g W a = fo g v a := by
            have := fo_from (g := g) (a := a) (v := v) (hsk _ hf) (W - v)
            rwa [show v + (W - v) = W by omega] at this
          refine ⟨Cv, j1, j2, ?_, fun Q => ?_⟩
          · rw [hfo]; exact j3
          · rw [zr75_27]
            simp only [zr75_0, zr75_1, zr75_2, zr75_5, zr75_8, zr75_9, zr75_10, zr75_13, zr75_14, zr75_16, zr75_19, zr75_20, zr75_21, zr75_24, zr75_25, zr75_26, zr75_28, zr75_29, zr75_32, zr75_35, zr75_38, zr75_39, zr75_42, zr75_44, zr75_47, zr75_48, zr75_49, zr75_50, zr75_51, zr75_52, zr75_55, zr75_58, zr75_59, zr75_62, zr75_65, zr75_66, zr75_67, zr75_69, zr75_70, zr75_73, zr75_76, zr75_78, zr75_79, zr75_82, zr75_83, zr75_84, zr75_85, zr75_86, zr75_89, zr75_90, zr75_93, zr75_94, zr75_97, zr75_98, zr75_99, zr75_100, zr75_101, zr75_104, zr75_105, zr75_108, zr75_109, zr75_112, zr75_113, zr75_115, zr75_117, zr75_120, zr75_123, zr75_126, zs_q0 N, zh_q0 ca cb c, hct.1, zq_kill_int, zq_kill_ref, zq_kill_ret, zq_kill_null, zq_kill_long, zq_rf_some, zq_rf_none, true_and, and_true, true_implies, not_true_eq_false, not_false_eq_true, false_implies, Bool.true_eq_false, Bool.false_eq_true, nI_1, zb_i0, zb_i1, zb_i2, Option.toList_some, Option.toList_none, List.cons_append, List.nil_append, true_or, or_true, implies_true, zb_it, zb_if, zb_10, zb_00, zb_n5, zb_n2, zb_m1, zb_m3, zb_m9, or_true, true_or, or_false, false_or, cw, h3, f6]
        · have f6 : (Cv 54 6 < 6) = True := by rw [j3.1]; exact eq_true ((nI_ltI (b := 6) (by omega) (by omega)).mpr (by omega))
          cases hbv : okm W P 7 M v with
          | false =>
            obtain ⟨C', i1, i2, i3, i4⟩ := ihu (by omega) Cv v4 v5 j1 j2 (by rw [hvu, fo_s, hgo v _ hbv]; exact j3)
            refine ⟨C', i1, i2, i3, fun Q => ?_⟩
            rw [hvu] at i4
            rw [zr75_27]
            simp only [zr75_0, zr75_1, zr75_2, zr75_5, zr75_8, zr75_9, zr75_10, zr75_13, zr75_14, zr75_16, zr75_19, zr75_20, zr75_21, zr75_24, zr75_25, zr75_26, zr75_28, zr75_29, zr75_32, zr75_35, zr75_38, zr75_39, zr75_42, zr75_44, zr75_47, zr75_48, zr75_49, zr75_50, zr75_51, zr75_52, zr75_55, zr75_58, zr75_59, zr75_62, zr75_65, zr75_66, zr75_67, zr75_69, zr75_70, zr75_73, zr75_76, zr75_78, zr75_79, zr75_82, zr75_83, zr75_84, zr75_85, zr75_86, zr75_89, zr75_90, zr75_93, zr75_94, zr75_97, zr75_98, zr75_99, zr75_100, zr75_101, zr75_104, zr75_105, zr75_108, zr75_109, zr75_112, zr75_113, zr75_115, zr75_117, zr75_120, zr75_123, zr75_126, zs_q0 N, zh_q0 ca cb c, hct.1, zq_kill_int, zq_kill_ref, zq_kill_ret, zq_kill_null, zq_kill_long, zq_rf_some, zq_rf_none, true_and, and_true, true_implies, not_true_eq_false, not_false_eq_true, false_implies, Bool.true_eq_false, Bool.false_eq_true, nI_1, zb_i0, zb_i1, zb_i2, Option.toList_some, Option.toList_none, List.cons_append, List.nil_append, true_or, or_true, implies_true, zb_it, zb_if, zb_10, zb_00, zb_n5, zb_n2, zb_m1, zb_m3, zb_m9, or_true, true_or, or_false, false_or, cw, h3, f6, zb_bit w1 hv, hbv, i4]
          | true =>
            generalize hCp : zq_u Cv 58 k (nI v) = Cp
            have qp : qfr Cv Cp := by rw [← hCp]; exact qfr_58
            have corp := (hcor.q hc j1).q hc qp
            have cpw : Cp c 10 = nI W := by rw [qp.1 c (by omega) (by omega) (by omega)]; exact cw
            have p56 : Cp 56 v = Cv 56 v := by rw [qp.1 56 (by omega) (by omega) (by omega)]
            have p55 : Cp 55 3 = Cv 55 3 := by rw [qp.1 55 (by omega) (by omega) (by omega)]
            have o54 : zc_go Cp c 55 v 54 = Cp 54 := zc_go_o (by omega)
            have o58 : zc_go Cp c 55 v 58 = Cp 58 := zc_go_o (by omega)
            have o59 : zc_go Cp c 55 v 59 = Cp 59 := zc_go_o (by omega)
            have pth : ∀ j, j < k + 1 → zc_go Cp c 55 v 58 j = nI (upn π k v j) := fun j hj => by
              rw [o58, ← hCp]
              by_cases q : j = k
              · subst q; rw [zq_u_eq, upn_eq]
              · rw [zq_u_kn q, upn_ne q, j2 j (by omega)]; exact hp j (by omega)
            have b54 : Cp 54 = Cv 54 := by rw [← hCp]; exact zq_u_ne (by omega)
            have b59 : Cp 59 = Cv 59 := by rw [← hCp]; exact zq_u_ne (by omega)
            obtain ⟨C1, n1, n2, n3, n4⟩ := k_Search_longest_in (N := N) (ca := ca) (cb := cb) (cs := c) (d := e + 4) (hl := hl) (C := zc_go Cp c 55 v) (k := k + 1) (a := fo g v a) (π := upn π k v) (by omega) pth (Or.inl (LR_fr j3 (by rw [o54, b54]) (by rw [o59, b59])))
            rw [show e + 4 + 1 = e + 5 from rfl] at n4
            obtain ⟨C3, q1, q2, q3, q4⟩ := ih (k + 1) (by omega) e (by omega) (D + 1) C1 (zm_go M v) (upn π k v) (en2 (fo g v a) (k + 1) (upn π k v)) ((corp.go hc hv (by omega)).q hc n1) (by omega) (by rw [n2]; exact pth) n3
            have q1' := qfr_tr n1 q1
            have go := fun Q => k_Course_goOn (d := e + 4) (hi := Cp) (hl := hl) (Q := Q) hct ho (by omega) cpw w1 hv
            have c3w : C3 c 10 = nI W := by rw [q1'.1 c (by omega) (by omega) (by omega), zc_go_o (by omega)]; exact cpw
            have bk := fun Q => k_Course_goBack (d := e + 4) (hi := C3) (hl := hl) (Q := Q) (l := Cv 56 v) (a := Cv 55 3) hct ho (by omega) c3w w1 hv
            rw [show e + 4 + 1 = e + 5 from rfl] at go bk
            have qb := qfr_bk hc q1'
            rw [p56, p55] at qb
            obtain ⟨C', i1, i2, i3, i4⟩ := ihu (by omega) (zc_bk C3 c 55 v (Cv 56 v) (Cv 55 3)) (.int (Cv 56 v)) (.int (Cv 55 3)) (qfr_tr j1 (qfr_tr qp qb)) (fun j hj => by
              rw [zc_bk_o (by omega), q2 j (by omega), n2, o58, ← hCp, zq_u_kn (by omega)]; exact j2 j hj) (by
              rw [hvu, fo_s, hgy v _ hbv]
              exact LR_fr q3 (by rw [zc_bk_o (by omega)]) (zc_bk_o (by omega)))
            refine ⟨C', i1, i2, i3, fun Q => ?_⟩
            rw [hvu] at i4
            rw [zr75_27]
            simp only [zr75_1, zr75_2, zr75_5, zr75_8, zr75_9, zr75_10, zr75_14, zr75_16, zr75_19, zr75_20, zr75_21, zr75_24, zr75_25, zr75_26, zr75_28, zr75_29, zr75_32, zr75_35, zr75_38, zr75_39, zr75_42, zr75_44, zr75_47, zr75_48, zr75_49, zr75_50, zr75_51, zr75_52, zr75_55, zr75_58, zr75_59, zr75_62, zr75_65, zr75_66, zr75_67, zr75_69, zr75_70, zr75_73, zr75_76, zr75_78, zr75_79, zr75_82, zr75_83, zr75_84, zr75_85, zr75_86, zr75_89, zr75_90, zr75_93, zr75_94, zr75_97, zr75_98, zr75_99, zr75_100, zr75_101, zr75_104, zr75_105, zr75_108, zr75_109, zr75_112, zr75_113, zr75_115, zr75_117, zr75_120, zr75_123, zr75_126, zs_q0 N, zh_q0 ca cb c, hct.1, zq_kill_int, zq_kill_ref, zq_kill_ret, zq_kill_null, zq_kill_long, zq_rf_some, zq_rf_none, true_and, and_true, true_implies, not_true_eq_false, not_false_eq_true, false_implies, Bool.true_eq_false, Bool.false_eq_true, nI_1, zb_i0, zb_i1, zb_i2, Option.toList_some, Option.toList_none, List.cons_append, List.nil_append, true_or, or_true, implies_true, zb_it, zb_if, zb_10, zb_00, zb_n5, zb_n2, zb_m1, zb_m3, zb_m9, or_true, true_or, or_false, false_or, cw, h3, f6, x1, x2, xk1, xk2, zb_bit w1 hv, hbv, hCp, go, n4, q4, bk, i4]
    obtain ⟨C', i1, i2, i3, i4⟩ := inner W (Nat.le_refl _) C (.retAddr 0) (.retAddr 0) (qfr_rfl C) (fun _ _ => rfl) (by rw [Nat.sub_self]; exact ha)
    refine ⟨C', i1, i2, i3, fun Q => ?_⟩
    rw [Nat.sub_self] at i4
    have i5 : zq_P (e + 6) 75 27 [.ref 54, .int (nI k), .int (zb_set (okm W P 7 M) W), .int 0, .retAddr 0, .retAddr 0] [] (zq_SG N, C, hl, zq_HR ca cb c) Q = _ := i4 Q
    simp only [zr75_0, zr75_1, zr75_2, zr75_5, zr75_8, zr75_9, zr75_10, zr75_13, zr75_14, zr75_16, zr75_19, zr75_20, zr75_21, zr75_24, zr75_25, zr75_26, zr75_28, zr75_29, zr75_32, zr75_35, zr75_38, zr75_39, zr75_42, zr75_44, zr75_47, zr75_48, zr75_49, zr75_50, zr75_51, zr75_52, zr75_55, zr75_58, zr75_59, zr75_62, zr75_65, zr75_66, zr75_67, zr75_69, zr75_70, zr75_73, zr75_76, zr75_78, zr75_79, zr75_82, zr75_83, zr75_84, zr75_85, zr75_86, zr75_89, zr75_90, zr75_93, zr75_94, zr75_97, zr75_98, zr75_99, zr75_100, zr75_101, zr75_104, zr75_105, zr75_108, zr75_109, zr75_112, zr75_113, zr75_115, zr75_117, zr75_120, zr75_123, zr75_126, zs_q0 N, zq_kill_int, zq_kill_ref, zq_kill_ret, zq_kill_null, zq_kill_long, zq_rf_some, zq_rf_none, true_and, and_true, true_implies, not_true_eq_false, not_false_eq_true, false_implies, Bool.true_eq_false, Bool.false_eq_true, nI_1, zb_i0, zb_i1, zb_i2, Option.toList_some, Option.toList_none, List.cons_append, List.nil_append, true_or, or_true, implies_true, zb_it, zb_if, zb_10, zb_00, zb_n5, zb_n2, zb_m1, zb_m3, zb_m9, or_true, true_or, or_false, false_or, q6, op]
    exact i5
end Z54
section Z54b
variable {N : Nat} {x : Int32}
theorem p_longest : zq_pair N 74 178 [.ref 0, .int x, .retAddr 0, .retAddr 0] [.ref 60, .int x] := by
  intro hi hl ca cb cs W P D h
  have hca := h.court
  have hs := zq_Ss_rows (N := N) (ca := ca) (cb := cb) (cs := cs)
  have hc := zq_Ct_ok (N := N) (ca := ca) (cb := cb) (cs := cs) h.court
  have hct := h.2.2.2.2.2.1
  obtain ⟨⟨w1, w2, w3, w4, w5, w6, -⟩, -, wa⟩ := id hct
  rcases zb_ix x 6 (by omega) with hz | ⟨j, hj, rfl⟩
  · refine ⟨.int (-1), hi, hl, ca, cb, cs, hi, hl, W, P, D, fun Q => ?_, fun Q => ?_, h⟩
    · simp only [zr74_0, zr74_1, zr74_4, zr74_5, zr74_8, zr74_8n, zr74_9, zr74_9n, zr74_10, zr74_10n, zr74_13, zr74_14, zr74_15, zr74_16, zr74_19, zr74_22, zr74_25, zr74_27, zr74_28, zr74_29, zr74_32, zr74_33, zr74_36, zr74_37, zr74_40, zr74_42, zr74_45, zr74_46, zr74_49, zr74_50, zr74_53, zr74_54, zr74_55, zr74_58, zr74_61, zr74_64, zr74_65, zr74_65n, zr74_66, zr74_67, zr74_70, zr74_73, zr74_74, zr74_77, zr74_78, zs_x0 N, zh_x0 ca cb cs, zq_kill_int, zq_kill_ref, zq_kill_ret, zq_kill_null, zq_kill_long, zq_rf_some, zq_rf_none, true_and, and_true, true_implies, not_true_eq_false, not_false_eq_true, false_implies, Bool.true_eq_false, Bool.false_eq_true, nI_1, zb_i0, zb_i1, zb_i2, Option.toList_some, Option.toList_none, List.cons_append, List.nil_append, true_or, or_true, implies_true, zb_it, zb_if, zb_10, zb_00, zb_n5, zb_n2, zb_m1, zb_m3, zb_m9, or_true, true_or, or_false, false_or, k_EF_stripAt_bad hs hz]
    · simp only [zr178_0, zr178_1, zr178_4, zr178_7, zr178_8, zr178_9, zr178_10, zr178_13, zr178_16, zr178_18, zr178_19, zr178_20, zr178_22, zr178_25, zr178_28, zr178_29, zr178_30, zr178_33, zr178_34, zr178_37, zr178_38, zr178_41, zr178_42, zr178_45, zr111_0, zr111_1, zr111_2, zr111_3, zr111_6, zs_m0 N, zs_m1 N, zs_m2 N, zh_m0 ca cb cs, zq_kill_int, zq_kill_ref, zq_kill_ret, zq_kill_null, zq_kill_long, zq_rf_some, zq_rf_none, true_and, and_true, true_implies, not_true_eq_false, not_false_eq_true, false_implies, Bool.true_eq_false, Bool.false_eq_true, nI_1, zb_i0, zb_i1, zb_i2, Option.toList_some, Option.toList_none, List.cons_append, List.nil_append, true_or, or_true, implies_true, zb_it, zb_if, zb_10, zb_00, zb_n5, zb_n2, zb_m1, zb_m3, zb_m9, or_true, true_or, or_false, false_or, k_M_in, zm_in_bad (M1 := 5) hz (by decide) (by omega)]
  · have hin2 := zm_in_ok (M1 := 5) hj (by decide) (by omega)
    have sa := fun (d : Nat) (hi : zq_I) Q => k_EF_stripAt (d := d) (hi := hi) (hl := hl) (Q := Q) hs (show 6 ≤ 6 by omega) hj
    by_cases hW0 : W = 0
    · have e0 : (nI W = 0) = True := eq_true (by rw [hW0]; rfl)
      refine ⟨.int (-4), hi, hl, ca, cb, cs, hi, hl, W, P, D, fun Q => ?_, fun Q => ?_, h⟩
      · simp only [zr74_0, zr74_1, zr74_4, zr74_5, zr74_8, zr74_8n, zr74_9, zr74_9n, zr74_10, zr74_10n, zr74_13, zr74_14, zr74_15, zr74_16, zr74_19, zr74_22, zr74_25, zr74_27, zr74_28, zr74_29, zr74_32, zr74_33, zr74_36, zr74_37, zr74_40, zr74_42, zr74_45, zr74_46, zr74_49, zr74_50, zr74_53, zr74_54, zr74_55, zr74_58, zr74_61, zr74_64, zr74_65, zr74_65n, zr74_66, zr74_67, zr74_70, zr74_73, zr74_74, zr74_77, zr74_78, zs_x0 N, zh_x0 ca cb cs, hc.1, zq_kill_int, zq_kill_ref, zq_kill_ret, zq_kill_null, zq_kill_long, zq_rf_some, zq_rf_none, true_and, and_true, true_implies, not_true_eq_false, not_false_eq_true, false_implies, Bool.true_eq_false, Bool.false_eq_true, nI_1, zb_i0, zb_i1, zb_i2, Option.toList_some, Option.toList_none, List.cons_append, List.nil_append, true_or, or_true, implies_true, zb_it, zb_if, zb_10, zb_00, zb_n5, zb_n2, zb_m1, zb_m3, zb_m9, or_true, true_or, or_false, false_or, sa, w3, e0]
      · simp only [zr178_0, zr178_1, zr178_4, zr178_7, zr178_8, zr178_9, zr178_10, zr178_13, zr178_16, zr178_18, zr178_19, zr178_20, zr178_22, zr178_25, zr178_28, zr178_29, zr178_30, zr178_33, zr178_34, zr178_37, zr178_38, zr178_41, zr178_42, zr178_45, zr111_0, zr111_1, zr111_2, zr111_3, zr111_6, zs_m0 N, zs_m1 N, zs_m2 N, zh_m0 ca cb cs, zq_kill_int, zq_kill_ref, zq_kill_ret, zq_kill_null, zq_kill_long, zq_rf_some, zq_rf_none, true_and, and_true, true_implies, not_true_eq_false, not_false_eq_true, false_implies, Bool.true_eq_false, Bool.false_eq_true, nI_1, zb_i0, zb_i1, zb_i2, Option.toList_some, Option.toList_none, List.cons_append, List.nil_append, true_or, or_true, implies_true, zb_it, zb_if, zb_10, zb_00, zb_n5, zb_n2, zb_m1, zb_m3, zb_m9, or_true, true_or, or_false, false_or, k_M_in, hin2, w4, e0]
    · have e0 : (nI W = 0) = False := eq_false (nI_ne0 (by omega) (by omega))
      have d0 := h.2.2.2.2.2.2.1.1
      obtain ⟨C0, b1, b2, b3, b4, b5, b6, b7⟩ := k_Search_begin (N := N) (d := 56) (cb := cb) (cs := cs) (hl := hl) (n := 6) hca w3 w1 (by omega)
      have b1' : ∀ Q, zq_P 57 64 0 [.ref 54, .ref ca, .ref 32, .int 6, .retAddr 0] [] (zq_SG N, hi, hl, zq_HR ca cb cs) Q = _ := b1
      have hcor := cor_start0 h b2 b3 b4
      have hM := Mok_cor hcor
      generalize ht : (fun w => (zm_tr C0 w).toNatClampNeg) = t at hM
      obtain ⟨C1, n1, n2, n3, n4⟩ := k_Search_longest_in (N := N) (ca := ca) (cb := cb) (cs := ca) (d := 56) (hl := hl) (C := C0) (k := 0) (a := (0, fun _ => 0)) (π := fun _ => 0) (by omega) (fun j hj => absurd hj (Nat.not_lt_zero _)) (Or.inr ⟨b6, rfl⟩)
      have en0 : en2 (0, fun _ => 0) 0 (fun _ => 0) = (0, fun _ => 0) := rfl
      rw [en0] at n3
      obtain ⟨C2, q1, -, q3, q4⟩ := k_Search_longest_go (N := N) (ca := ca) (cb := cb) (hl := hl) (c := ca) hca 6 0 (by omega) 52 (by omega) D C1 C0 (fun _ => 0) (0, fun _ => 0) (hcor.q hca n1) (by omega) (fun j hj => absurd hj (Nat.not_lt_zero _)) n3
      have q1' := qfr_tr n1 q1
      have q4' : ∀ Q, zq_P 57 75 0 [.ref 54, .int 0, .retAddr 0, .retAddr 0, .retAddr 0, .retAddr 0] [] (zq_SG N, C0, hl, zq_HR ca cb ca) Q = Q none (zq_SG N, C2, hl, zq_HR ca cb ca) := fun Q => (n4 Q).trans (q4 Q)
      have hex := ex_3 (ok := okm W P 7) (W := W) (t := t) 6 0 C0 0 (fun _ => 0) (0, none, 0, fun _ => 0)
      dsimp only at hex
      rw [← hex] at q3
      have f2 : ∀ a, a < 54 ∨ 59 < a → C2 a = hi a := fun a ha => by rw [q1'.1 a (by omega) (by omega) (by omega), b2 a (by omega)]
      generalize hA : ex (okm W P 7) W t 6 0 C0 0 (fun _ => 0) (0, none, 0, fun _ => 0) = A at q3
      obtain ⟨A1, A2, n, ρ⟩ := A
      obtain ⟨z1, z2, z3⟩ := q3
      dsimp only at z1 z2 z3
      generalize hC3 : zq_u (zq_w C2 (2 + 1 + 2 * j) (va_cpy (C2 59) (C2 (2 + 1 + 2 * j)) 0 0 n)) (2 + 2 * j) 1 (nI n) = C3
      have o3 : ∀ a, a ≠ 2 + 2 * j → a ≠ 2 + 1 + 2 * j → C3 a = C2 a := fun a a1 a2 => by rw [← hC3, zq_u_ne a1, zq_w_ne a2]
      have up : ∀ a, 60 ≤ a → C3 a = C0 a := fun a ha => by rw [o3 a (by omega) (by omega), q1'.1 a (by omega) (by omega) (by omega)]
      obtain ⟨H', s1, r1, sp⟩ := k_M_setPlans (N := N) (ca := ca) (cb := cb) (cs := ca) (d := 52) (hl := hl) (n := 6) (may := 7) (by omega) (Mok_lo up hM)
      rw [ex_lo up, hA] at r1
      obtain ⟨-, -, y1, -, y3⟩ := r1
      dsimp only at y1 y3
      have sp' : ∀ Q, zq_P 57 171 0 [.ref 60, .int 6, .int 7, .retAddr 0, .retAddr 0] [] (zq_SG N, C3, hl, zq_HR ca cb ca) Q = _ := sp
      have c10 : C3 60 10 = nI W := by rw [o3 _ (by omega) (by omega), f2 _ (by omega)]; exact w4
      have hs2 := zq_Ss_rows (N := N) (ca := ca) (cb := cb) (cs := ca)
      have g1 : zq_aW (zq_SG N) 59 := by simp only [zs_q0 N]
      have g2 : zq_lS (zq_SG N) 59 := by simp only [zs_q0 N]
      have g3 : zq_ln (zq_SG N) 59 = 6 := by simp only [zs_q0 N]
      have tk := fun Q => k_Strip_takeFrom (N := N) (ca := ca) (cb := cb) (cs := ca) (d := 57) (hi := C2) (hl := hl) (Q := Q) (b := 0) (n := n) (hs2.2 j hj).2 g1 g2 g3 (by omega) (by omega) (by omega) (by omega)
      rw [hC3] at tk
      have hmax : (if (0 : Int32) < nI n then nI n else 0) = nI n := by
        by_cases e : n = 0
        · subst e; rfl
        · exact if_pos (nI_lt (a := 0) (by omega) (by omega))
      have l1 : zq_aS (zq_SG N) 83 ∧ zq_ln (zq_SG N) 83 = 7 := by simp only [zs_m0 N, zs_m1 N, zs_m2 N, and_self]
      have ll := fun Q => k_M_layLine (N := N) (ca := ca) (cb := cb) (cs := ca) (d := 56) (H := H') (hl := hl) (Q := Q) (j := j) (n := n) l1 (by omega) (by omega) hj z2
      have y2' : zq_w (zq_u H' 62 j (nI n)) 63 (laf (H' 63) (H' 83) j n 40) 60 41 = nI n := by rw [zq_w_ne (by omega), zq_u_ne (by omega)]; exact y1
      refine ⟨.int (nI n), C3, hl, ca, cb, ca, zq_w (zq_u H' 62 j (nI n)) 63 (laf (H' 63) (H' 83) j n 40), hl, W, P, D, fun Q => ?_, fun Q => ?_, ?_⟩
      · simp only [zr74_0, zr74_1, zr74_4, zr74_5, zr74_8, zr74_8n, zr74_9, zr74_9n, zr74_10, zr74_10n, zr74_13, zr74_14, zr74_15, zr74_16, zr74_19, zr74_22, zr74_25, zr74_27, zr74_28, zr74_29, zr74_32, zr74_33, zr74_36, zr74_37, zr74_40, zr74_42, zr74_45, zr74_46, zr74_49, zr74_50, zr74_53, zr74_54, zr74_55, zr74_58, zr74_61, zr74_64, zr74_65, zr74_65n, zr74_66, zr74_67, zr74_70, zr74_73, zr74_74, zr74_77, zr74_78, zs_x0 N, zs_q0 N, zh_x0 ca cb cs, zh_x0 ca cb ca, zh_q0 ca cb ca, hc.1, zq_kill_int, zq_kill_ref, zq_kill_ret, zq_kill_null, zq_kill_long, zq_rf_some, zq_rf_none, true_and, and_true, true_implies, not_true_eq_false, not_false_eq_true, false_implies, Bool.true_eq_false, Bool.false_eq_true, nI_1, zb_i0, zb_i1, zb_i2, Option.toList_some, Option.toList_none, List.cons_append, List.nil_append, true_or, or_true, implies_true, zb_it, zb_if, zb_10, zb_00, zb_n5, zb_n2, zb_m1, zb_m3, zb_m9, or_true, true_or, or_false, false_or, sa, w3, e0, b1', q4', z1, hmax, (hs2.2 j hj).2.1, tk]
      · simp only [zr178_0, zr178_1, zr178_4, zr178_7, zr178_8, zr178_9, zr178_10, zr178_13, zr178_16, zr178_18, zr178_19, zr178_20, zr178_22, zr178_25, zr178_28, zr178_29, zr178_30, zr178_33, zr178_34, zr178_37, zr178_38, zr178_41, zr178_42, zr178_45, zr111_0, zr111_1, zr111_2, zr111_3, zr111_6, zr170_0, zr170_2, zs_m0 N, zs_m1 N, zs_m2 N, zh_m0 ca cb ca, zq_kill_int, zq_kill_ref, zq_kill_ret, zq_kill_null, zq_kill_long, zq_rf_some, zq_rf_none, true_and, and_true, true_implies, not_true_eq_false, not_false_eq_true, false_implies, Bool.true_eq_false, Bool.false_eq_true, nI_1, zb_i0, zb_i1, zb_i2, Option.toList_some, Option.toList_none, List.cons_append, List.nil_append, true_or, or_true, implies_true, zb_it, zb_if, zb_10, zb_00, zb_n5, zb_n2, zb_m1, zb_m3, zb_m9, or_true, true_or, or_false, false_or, k_M_in, hin2, c10, e0, sp', y1, ll, y2']
      · have hH : ∀ a, a ≠ 60 → a < 80 → H' a = C3 a := fun a a1 a2 => s1.1 a a1 (by omega)
        refine h.searchR (j := j) (n := n) (C2 := C3) hj (by omega) (fun a ha a1 a2 => by rw [o3 a a1 a2, f2 a ha]) (fun a ha => ?_) (fun a a1 a2 a3 a4 => ?_) (fun f hf => ?_) ?_ ?_ (fun r hr => ?_) (fun k hk => ?_) (fun i hi' => ?_)
        · rw [zq_w_ne (by omega), zq_u_ne (by omega), hH a (by omega) (by omega)]
        · rw [zq_w_ne a4, zq_u_ne a3, hH a (by omega) (by omega)]
        · rw [zq_w_ne (by omega), zq_u_ne (by omega)]; exact s1.2 f (by omega)
        · rw [← hC3, zq_u_eq]
        · rw [zq_w_ne (by omega), zq_u_eq]
        · rw [zq_w_ne (by omega), zq_u_kn hr, hH 62 (by omega) (by omega)]
        · rw [zq_w_eq, ← hC3, zq_u_ne (by omega), zq_w_eq, pk_cpy_in (by omega) (by omega), show 0 + (k - 0) = k by omega, z3 k hk]
          unfold laf
          rw [if_pos (by omega), show 40 * j + k - 40 * j = k by omega, if_pos hk, y3 k hk]
        · rw [zq_w_eq]
          unfold laf
          rw [if_neg (by omega), hH 63 (by omega) (by omega)]
end Z54b
