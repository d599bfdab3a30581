/-! strikes: the reference -/
theorem zl_ev : ∀ i, i ≤ 3 → nI (2 * i) - nI (2 * i) / 2 * 2 = 0 := by decide
theorem zl_od : ∀ i, i ≤ 2 → nI (2 * i + 1) - nI (2 * i + 1) / 2 * 2 = 1 := by decide
def kfr (M H : zq_I) : Prop := ∀ a, a ≠ 84 → a ≠ 85 → a ≠ 86 → H a = M a
def ufr (l : Nat) (H H' : zq_I) : Prop := (∀ i, i < l → H' 85 i = H 85 i ∧ H' 86 i = H 86 i) ∧ ∀ i, i < 17 * l → H' 84 i = H 84 i
theorem ufr_rfl (l : Nat) (H : zq_I) : ufr l H H := ⟨fun _ _ => ⟨rfl, rfl⟩, fun _ _ => rfl⟩
theorem ufr_tr {l : Nat} {A B C : zq_I} (h1 : ufr l A B) (h2 : ufr l B C) : ufr l A C := ⟨fun i hi => ⟨((h2.1 i hi).1).trans (h1.1 i hi).1, ((h2.1 i hi).2).trans (h1.1 i hi).2⟩, fun i hi => (h2.2 i hi).trans (h1.2 i hi)⟩
section Z57
variable {N ca cb cs d W P n l v w0 L L1 x val u : Nat} {M M1 H H2 K : zq_I} {hl : zq_J} {Q : Option Value → zq_G → Prop} {t : Nat → Nat} {b0 wv : Int32}
theorem k_M_has7 {k : Nat} {gg : zq_G} (hL : L < 128) (hk : k < 7) : zq_P d 191 0 [.int (nI L), .int (nI k)] [] gg Q = Q (some (.int (zb_i (L.testBit k)))) gg := by
  obtain ⟨S, hi, hl, hr⟩ := gg
  have e := zl_b L hL k hk
  simp only [zr191_0, zr191_1, zr191_2, zr191_3, zr191_4, zr191_5, zr191_6, zr191_9, zr191_10, zr191_13, zr191_14, zq_kill_int, zq_kill_ref, zq_kill_ret, zq_kill_null, zq_kill_long, zq_rf_some, zq_rf_none, true_and, and_true, true_implies, not_true_eq_false, not_false_eq_true, false_implies, Bool.true_eq_false, Bool.false_eq_true, nI_1, zb_i0, zb_i1, zb_i2, Option.toList_some, Option.toList_none, List.cons_append, List.nil_append, true_or, or_true, implies_true, e]
  cases L.testBit k <;> simp [zb_i]
theorem k_M_greater {a b : Int32} {gg : zq_G} : zq_P d 192 0 [.int a, .int b] [] gg Q = Q (some (.int (if b < a then a else b))) gg := by
  obtain ⟨S, hi, hl, hr⟩ := gg
  simp only [zr192_0, zr192_1, zr192_2, zr192_5, zr192_6, zr192_9, zr192_10, zq_kill_int, zq_kill_ref, zq_kill_ret, zq_kill_null, zq_kill_long, zq_rf_some, zq_rf_none, true_and, and_true, true_implies, not_true_eq_false, not_false_eq_true, false_implies, Bool.true_eq_false, Bool.false_eq_true, nI_1, zb_i0, zb_i1, zb_i2, Option.toList_some, Option.toList_none, List.cons_append, List.nil_append, true_or, or_true, implies_true]
  by_cases q : b < a <;> simp [q]
theorem kfr_cano (h : kfr M H) : cano H = cano M := by
  funext W P w
  unfold cano zm_can zm_rest zm_needs zm_away
  have e : zm_ah H = zm_ah M := by
    funext r v
    unfold zm_ah
    rw [h 74 (by omega) (by omega) (by omega), h 69 (by omega) (by omega) (by omega), h 60 (by omega) (by omega) (by omega)]
  rw [e, h 74 (by omega) (by omega) (by omega), h 69 (by omega) (by omega) (by omega), h 71 (by omega) (by omega) (by omega), h 67 (by omega) (by omega) (by omega), h 68 (by omega) (by omega) (by omega), h 60 (by omega) (by omega) (by omega)]
theorem kfr_tr' (h : kfr M H) : zm_tr H = zm_tr M := zm_tr_fr (h 69 (by omega) (by omega) (by omega)) (h 70 (by omega) (by omega) (by omega))
theorem kfr_go {w : Nat} (h : kfr M H) : kfr (zm_go M w) (zm_go H w) := by
  intro a a1 a2 a3
  funext f
  by_cases q6 : a = 60
  · subst q6; rw [zm_go_60, zm_go_60, kfr_tr' h, h 60 (by omega) (by omega) (by omega)]
  · by_cases q4 : a = 74
    · subst q4; rw [zm_go_74, zm_go_74, h 60 (by omega) (by omega) (by omega), h 74 (by omega) (by omega) (by omega)]
    · by_cases q5 : a = 75
      · subst q5; rw [zm_go_75, zm_go_75, h 75 (by omega) (by omega) (by omega)]
      · rw [zm_go_o q6 q4 q5, zm_go_o q6 q4 q5, h a a1 a2 a3]
theorem zm_re_60 {f : Nat} : zm_re M 60 f = if f = 25 then M 60 25 + 1 else if f = 27 then M 60 27 + 1 else if f = 26 then M 60 26 + 20 else M 60 f := by
  simp [zm_re, zq_u]
theorem zm_re_o {a : Nat} (h : a ≠ 60) : zm_re M a = M a := by unfold zm_re; rw [zq_u_ne h, zq_u_ne h, zq_u_ne h]
theorem kfr_re (h : kfr M H) : kfr (zm_re M) (zm_re H) := by
  intro a a1 a2 a3
  by_cases q6 : a = 60
  · subst q6; funext f; rw [zm_re_60, zm_re_60, h 60 (by omega) (by omega) (by omega)]
  · rw [zm_re_o q6, zm_re_o q6, h a a1 a2 a3]
theorem kfr_u85 {k : Nat} {y : Int32} (h : kfr M H) : kfr M (zq_u H 85 k y) := fun a a1 a2 a3 => by rw [zq_u_ne a2]; exact h a a1 a2 a3
theorem kfr_u86 {k : Nat} {y : Int32} (h : kfr M H) : kfr M (zq_u H 86 k y) := fun a a1 a2 a3 => by rw [zq_u_ne a3]; exact h a a1 a2 a3
theorem kfr_wr {k : Nat} (h : kfr M H) : kfr M (zm_wr H 84 k) := fun a a1 a2 a3 => by unfold zm_wr; rw [zq_w_ne a1]; exact h a a1 a2 a3
theorem kfr_sn (h : kfr M H) : zm_sn H = zm_sn M := by
  funext r
  unfold zm_sn
  rw [h 60 (by omega) (by omega) (by omega), h 74 (by omega) (by omega) (by omega), h 75 (by omega) (by omega) (by omega)]
theorem kfr_Mok (h : kfr M H) (hM : Mok W P t M) : Mok W P t H := by
  unfold Mok at hM ⊢
  rw [h 60 (by omega) (by omega) (by omega), h 67 (by omega) (by omega) (by omega), kfr_tr' h]
  exact hM
theorem zm_rd_o {at' a : Nat} (a1 : a ≠ 60) (a2 : a ≠ 74) (a3 : a ≠ 75) : zm_rd H 84 at' a = H a := by
  unfold zm_rd zm_rk
  rw [zq_w_ne a3, zq_w_ne a2, zq_u_ne a1, zq_u_ne a1, zq_u_ne a1]
theorem kfr_rd {at' : Nat} (h : kfr M1 H) (hm : mfr M M1) (hs : ∀ r, r < 17 → H 84 (at' + r) = zm_sn M r) : kfr M (zm_rd H 84 at') := by
  obtain ⟨h1, h2, h3⟩ := hm
  intro a a1 a2 a3
  funext j
  by_cases q5 : a = 75
  · subst q5
    unfold zm_rd zm_rk
    rw [zq_w_eq]
    by_cases e : j < 7
    · rw [if_pos e, Nat.add_assoc, hs _ (by omega)]
      unfold zm_sn
      rw [if_neg (by omega), if_neg (by omega), if_neg (by omega), if_neg (by omega), show 10 + j - 10 = j by omega]
    · rw [if_neg e, h 75 (by omega) (by omega) (by omega), (h3 j (by omega)).2]
  · by_cases q4 : a = 74
    · subst q4
      unfold zm_rd zm_rk
      rw [zq_w_ne q5, zq_w_eq]
      by_cases e : j < 7
      · rw [if_pos e, Nat.add_assoc, hs _ (by omega)]
        unfold zm_sn
        rw [if_neg (by omega), if_neg (by omega), if_neg (by omega), if_pos (by omega), show 3 + j - 3 = j by omega]
      · rw [if_neg e, h 74 (by omega) (by omega) (by omega), (h3 j (by omega)).1]
    · by_cases q6 : a = 60
      · subst q6
        unfold zm_rd zm_rk
        rw [zq_w_ne q5, zq_w_ne q4]
        by_cases f7 : j = 27
        · subst f7; rw [zq_u_eq, hs 2 (by omega)]; rfl
        · rw [zq_u_kn f7]
          by_cases f6 : j = 26
          · subst f6; rw [zq_u_eq, hs 1 (by omega)]; rfl
          · rw [zq_u_kn f6]
            by_cases f5 : j = 25
            · subst f5; rw [zq_u_eq]; have := hs 0 (by omega); rw [Nat.add_zero] at this; rw [this]; rfl
            · rw [zq_u_kn f5, h 60 (by omega) (by omega) (by omega), h2 j f5 f6 f7]
      · rw [zm_rd_o q6 q4 q5, h a a1 a2 a3, h1 a q6 q4 q5]
/-- the next choice: of one who strikes, of the usher -/
def nce (L W u : Nat) : Nat := if nxw (fun w => L.testBit w) W u = W ∧ ¬ L = 0 then W + 1 else nxw (fun w => L.testBit w) W u
theorem k_M_nextE {lv : Int32} {v2 : Value} (h10 : H 60 10 = nI W) (hW : W ≤ 7) (hL : L < 128) : ∀ u, u ≤ W → zq_P (d + 1) 190 9 [.ref 60, .int lv, v2, .int (nI L), .int (nI (W - u))] [] (zq_SG N, H, hl, zq_HR ca cb cs) Q = Q (some (.int (nI (nce L W u)))) (zq_SG N, H, hl, zq_HR ca cb cs) := by
  have eL : (nI L = 0) = (L = 0) := zb_eq (b := 0) (by omega) (by omega)
  have fin : ∀ w, w ≤ W → zq_P (d + 1) 190 33 [.ref 60, .int lv, v2, .int (nI L), .int (nI w)] [] (zq_SG N, H, hl, zq_HR ca cb cs) Q = Q (some (.int (nI (if w = W ∧ ¬ L = 0 then W + 1 else w)))) (zq_SG N, H, hl, zq_HR ca cb cs) := by
    intro w hw
    have ew : (nI w = nI W) = (w = W) := zb_eq (by omega) (by omega)
    simp only [zr190_0, zr190_1, zr190_3, zr190_4, zr190_5, zr190_6, zr190_11, zr190_12, zr190_15, zr190_18, zr190_19, zr190_21, zr190_24, zr190_27, zr190_30, zr190_33, zr190_35, zr190_36, zr190_39, zr190_42, zr190_43, zr190_46, zr190_47, zr190_50, zr190_51, zr190_52, zr190_55, zr190_57, zr190_60, zr190_61, zr190_64, zr190_67, zr190_68, zr190_70, zr190_73, zr190_76, zr190_77, zr190_79, zr190_82, zr190_85, zr190_88, zr190_91, zr190_93, zs_m0 N, zs_m1 N, zs_m2 N, zh_m0 ca cb cs, zq_kill_int, zq_kill_ref, zq_kill_ret, zq_kill_null, zq_kill_long, zq_rf_some, zq_rf_none, true_and, and_true, true_implies, not_true_eq_false, not_false_eq_true, false_implies, Bool.true_eq_false, Bool.false_eq_true, nI_1, zb_i0, zb_i1, zb_i2, Option.toList_some, Option.toList_none, List.cons_append, List.nil_append, true_or, or_true, implies_true, zb_it, zb_if, zb_10, zb_00, zb_n5, zb_n2, zb_m1, zb_m3, zb_m9, or_true, true_or, or_false, false_or, h10, ew, eL]
    by_cases q1 : w = W
    · by_cases q2 : L = 0 <;> simp [q1, q2]
    · simp [q1]
  intro u
  induction u with
  | zero =>
    intro _
    have h3 : (nI (W - 0) < nI W) = False := eq_false (nI_nlt (by omega) (by omega))
    have f := fin W (Nat.le_refl _)
    rw [zr190_9]
    simp only [zr190_0, zr190_1, zr190_3, zr190_4, zr190_5, zr190_6, zr190_11, zr190_12, zr190_15, zr190_18, zr190_19, zr190_21, zr190_24, zr190_27, zr190_30, zr190_35, zr190_36, zr190_39, zr190_42, zr190_43, zr190_46, zr190_47, zr190_50, zr190_51, zr190_52, zr190_55, zr190_57, zr190_60, zr190_61, zr190_64, zr190_67, zr190_68, zr190_70, zr190_73, zr190_76, zr190_77, zr190_79, zr190_82, zr190_85, zr190_88, zr190_91, zr190_93, zs_m0 N, zs_m1 N, zs_m2 N, zh_m0 ca cb cs, zq_kill_int, zq_kill_ref, zq_kill_ret, zq_kill_null, zq_kill_long, zq_rf_some, zq_rf_none, true_and, and_true, true_implies, not_true_eq_false, not_false_eq_true, false_implies, Bool.true_eq_false, Bool.false_eq_true, nI_1, zb_i0, zb_i1, zb_i2, Option.toList_some, Option.toList_none, List.cons_append, List.nil_append, true_or, or_true, implies_true, zb_it, zb_if, zb_10, zb_00, zb_n5, zb_n2, zb_m1, zb_m3, zb_m9, or_true, true_or, or_false, false_or, h10, h3]
    exact f
  | succ u ih =>
    intro hu
    have h3 : (nI (W - (u + 1)) < nI W) = True := eq_true ((nI_ltI (by omega) (by omega)).mpr (by omega))
    have hs := k_M_has7 (d := d) (L := L) (k := W - (u + 1)) (gg := (zq_SG N, H, hl, zq_HR ca cb cs)) hL (by omega) (Q := fun v2' g2 => zq_P (d + 1) 190 24 [.ref 60, .int lv, v2, .int (nI L), .int (nI (W - (u + 1)))] (v2'.toList ++ []) g2 Q)
    have hs2 := fun Q => k_M_has7 (d := d) (L := L) (k := W - (u + 1)) (gg := (zq_SG N, H, hl, zq_HR ca cb cs)) (Q := Q) hL (by omega)
    have q4 : nI (W - (u + 1)) + 1 = nI (W - u) := by rw [nI_1]; congr 1; omega
    unfold nce
    rw [nxw_s]
    rw [zr190_9]
    cases hb : L.testBit (W - (u + 1)) with
    | false =>
      have ih2 := ih (by omega)
      unfold nce at ih2
      simp only [zr190_0, zr190_1, zr190_3, zr190_4, zr190_5, zr190_6, zr190_11, zr190_12, zr190_15, zr190_18, zr190_19, zr190_21, zr190_24, zr190_27, zr190_30, zr190_35, zr190_36, zr190_39, zr190_42, zr190_43, zr190_46, zr190_47, zr190_50, zr190_51, zr190_52, zr190_55, zr190_57, zr190_60, zr190_61, zr190_64, zr190_67, zr190_68, zr190_70, zr190_73, zr190_76, zr190_77, zr190_79, zr190_82, zr190_85, zr190_88, zr190_91, zr190_93, zs_m0 N, zs_m1 N, zs_m2 N, zh_m0 ca cb cs, zb_it, zb_if, zb_10, zb_00, zb_n5, zb_n2, zb_m1, zb_m3, zb_m9, or_true, true_or, or_false, false_or, zq_kill_int, zq_kill_ref, zq_rf_some, true_and, and_true, true_implies, not_true_eq_false, not_false_eq_true, false_implies, Bool.true_eq_false, Bool.false_eq_true, Option.toList_some, List.cons_append, List.nil_append, h10, h3, hs2, hb, zb_i0, q4, if_false]
      exact ih2
    | true =>
      have f := fin (W - (u + 1)) (by omega)
      simp only [zr190_0, zr190_1, zr190_3, zr190_4, zr190_5, zr190_6, zr190_11, zr190_12, zr190_15, zr190_18, zr190_19, zr190_21, zr190_24, zr190_27, zr190_30, zr190_35, zr190_36, zr190_39, zr190_42, zr190_43, zr190_46, zr190_47, zr190_50, zr190_51, zr190_52, zr190_55, zr190_57, zr190_60, zr190_61, zr190_64, zr190_67, zr190_68, zr190_70, zr190_73, zr190_76, zr190_77, zr190_79, zr190_82, zr190_85, zr190_88, zr190_91, zr190_93, zs_m0 N, zs_m1 N, zs_m2 N, zh_m0 ca cb cs, zq_kill_int, zq_kill_ref, zq_kill_ret, zq_kill_null, zq_kill_long, zq_rf_some, zq_rf_none, true_and, and_true, true_implies, not_true_eq_false, not_false_eq_true, false_implies, Bool.true_eq_false, Bool.false_eq_true, nI_1, zb_i0, zb_i1, zb_i2, Option.toList_some, Option.toList_none, List.cons_append, List.nil_append, true_or, or_true, implies_true, zb_it, zb_if, zb_10, zb_00, zb_n5, zb_n2, zb_m1, zb_m3, zb_m9, or_true, true_or, or_false, false_or, h10, h3, hs2, hb, if_true]
      exact f
theorem k_M_nextE0 {lv : Int32} {v2 : Value} (h10 : H 60 10 = nI W) (hW : W ≤ 7) : zq_P d 190 9 [.ref 60, .int lv, v2, .int (nI L), .int (nI (W + 1))] [] (zq_SG N, H, hl, zq_HR ca cb cs) Q = Q (some (.int (nI (W + 1)))) (zq_SG N, H, hl, zq_HR ca cb cs) := by
  have h3 : (nI (W + 1) < nI W) = False := eq_false (nI_nlt (by omega) (by omega))
  have ew : (nI (W + 1) = nI W) = False := by rw [zb_eq (by omega) (by omega)]; exact eq_false (by omega)
  rw [zr190_9]
  simp only [zr190_0, zr190_1, zr190_3, zr190_4, zr190_5, zr190_6, zr190_11, zr190_12, zr190_15, zr190_18, zr190_19, zr190_21, zr190_24, zr190_27, zr190_30, zr190_33, zr190_35, zr190_36, zr190_39, zr190_42, zr190_43, zr190_46, zr190_47, zr190_50, zr190_51, zr190_52, zr190_55, zr190_57, zr190_60, zr190_61, zr190_64, zr190_67, zr190_68, zr190_70, zr190_73, zr190_76, zr190_77, zr190_79, zr190_82, zr190_85, zr190_88, zr190_91, zr190_93, zs_m0 N, zs_m1 N, zs_m2 N, zh_m0 ca cb cs, zq_kill_int, zq_kill_ref, zq_kill_ret, zq_kill_null, zq_kill_long, zq_rf_some, zq_rf_none, true_and, and_true, true_implies, not_true_eq_false, not_false_eq_true, false_implies, Bool.true_eq_false, Bool.false_eq_true, nI_1, zb_i0, zb_i1, zb_i2, Option.toList_some, Option.toList_none, List.cons_append, List.nil_append, true_or, or_true, implies_true, zb_it, zb_if, zb_10, zb_00, zb_n5, zb_n2, zb_m1, zb_m3, zb_m9, or_true, true_or, or_false, false_or, h10, h3, ew]
theorem k_M_nextO {lv : Int32} {v2 : Value} (hM : Mok W P t H) (hL : L < 128) : ∀ u, u ≤ W → zq_P (d + 4) 190 58 [.ref 60, .int lv, v2, .int (nI L), .int (nI (W - u))] [] (zq_SG N, H, hl, zq_HR ca cb cs) Q = Q (some (.int (nI (nxw (fun w => cano H W P w && L.testBit w) W u)))) (zq_SG N, H, hl, zq_HR ca cb cs) := by
  obtain ⟨⟨h1, h2, h3', h4⟩, h5, h6⟩ := hM
  have hcan : ∀ w, zm_can H W (zb_set (zm_away H (H 60 25)) P) w = cano H W P w := fun w => rfl
  intro u
  induction u with
  | zero =>
    intro _
    have h3 : (nI (W - 0) < nI W) = False := eq_false (nI_nlt (by omega) (by omega))
    rw [zr190_58]
    simp only [zr190_0, zr190_1, zr190_3, zr190_4, zr190_5, zr190_6, zr190_11, zr190_12, zr190_15, zr190_18, zr190_19, zr190_21, zr190_24, zr190_27, zr190_30, zr190_33, zr190_35, zr190_36, zr190_39, zr190_42, zr190_43, zr190_46, zr190_47, zr190_50, zr190_51, zr190_52, zr190_55, zr190_57, zr190_60, zr190_61, zr190_64, zr190_67, zr190_68, zr190_70, zr190_73, zr190_76, zr190_77, zr190_79, zr190_82, zr190_85, zr190_88, zr190_91, zr190_93, zs_m0 N, zs_m1 N, zs_m2 N, zh_m0 ca cb cs, zq_kill_int, zq_kill_ref, zq_kill_ret, zq_kill_null, zq_kill_long, zq_rf_some, zq_rf_none, true_and, and_true, true_implies, not_true_eq_false, not_false_eq_true, false_implies, Bool.true_eq_false, Bool.false_eq_true, nI_1, zb_i0, zb_i1, zb_i2, Option.toList_some, Option.toList_none, List.cons_append, List.nil_append, true_or, or_true, implies_true, zb_it, zb_if, zb_10, zb_00, zb_n5, zb_n2, zb_m1, zb_m3, zb_m9, or_true, true_or, or_false, false_or, h1, h3]
    rfl
  | succ u ih =>
    intro hu
    have h3 : (nI (W - (u + 1)) < nI W) = True := eq_true ((nI_ltI (by omega) (by omega)).mpr (by omega))
    have w7 : W - (u + 1) < 7 := by omega
    have hs2 := fun Q => k_M_has7 (d := d + 3) (L := L) (k := W - (u + 1)) (gg := (zq_SG N, H, hl, zq_HR ca cb cs)) (Q := Q) hL w7
    have cd := fun Q => k_M_canDo (N := N) (ca := ca) (cb := cb) (cs := cs) (d := d) (hl := hl) (Q := Q) h1 h2 w7 h3' h4 h5
    have q4 : nI (W - (u + 1)) + 1 = nI (W - u) := by rw [nI_1]; congr 1; omega
    have ih2 := ih (by omega)
    rw [nxw_s, zr190_58]
    cases hb : L.testBit (W - (u + 1)) with
    | false =>
      simp only [zr190_0, zr190_1, zr190_3, zr190_4, zr190_5, zr190_6, zr190_11, zr190_12, zr190_15, zr190_18, zr190_19, zr190_21, zr190_24, zr190_27, zr190_30, zr190_33, zr190_35, zr190_36, zr190_39, zr190_42, zr190_43, zr190_46, zr190_47, zr190_50, zr190_51, zr190_52, zr190_55, zr190_57, zr190_60, zr190_61, zr190_64, zr190_67, zr190_68, zr190_70, zr190_73, zr190_76, zr190_77, zr190_79, zr190_82, zr190_85, zr190_88, zr190_91, zr190_93, zs_m0 N, zs_m1 N, zs_m2 N, zh_m0 ca cb cs, zb_i0, zq_kill_int, zq_kill_ref, zq_rf_some, true_and, and_true, true_implies, not_true_eq_false, not_false_eq_true, false_implies, Bool.true_eq_false, Bool.false_eq_true, Option.toList_some, List.cons_append, List.nil_append, h1, h3, hs2, hb, q4, Bool.and_false, if_false]
      exact ih2
    | true =>
      cases hc : cano H W P (W - (u + 1)) with
      | false =>
        simp only [zr190_0, zr190_1, zr190_3, zr190_4, zr190_5, zr190_6, zr190_11, zr190_12, zr190_15, zr190_18, zr190_19, zr190_21, zr190_24, zr190_27, zr190_30, zr190_33, zr190_35, zr190_36, zr190_39, zr190_42, zr190_43, zr190_46, zr190_47, zr190_50, zr190_51, zr190_52, zr190_55, zr190_57, zr190_60, zr190_61, zr190_64, zr190_67, zr190_68, zr190_70, zr190_73, zr190_76, zr190_77, zr190_79, zr190_82, zr190_85, zr190_88, zr190_91, zr190_93, zs_m0 N, zs_m1 N, zs_m2 N, zh_m0 ca cb cs, zb_i0, zq_kill_int, zq_kill_ref, zq_rf_some, true_and, and_true, true_implies, not_true_eq_false, not_false_eq_true, false_implies, Bool.true_eq_false, Bool.false_eq_true, Option.toList_some, List.cons_append, List.nil_append, h1, h3, hs2, hb, cd, hcan, hc, q4, Bool.and_true, if_false]
        exact ih2
      | true =>
        simp only [zr190_0, zr190_1, zr190_3, zr190_4, zr190_5, zr190_6, zr190_11, zr190_12, zr190_15, zr190_18, zr190_19, zr190_21, zr190_24, zr190_27, zr190_30, zr190_33, zr190_35, zr190_36, zr190_39, zr190_42, zr190_43, zr190_46, zr190_47, zr190_50, zr190_51, zr190_52, zr190_55, zr190_57, zr190_60, zr190_61, zr190_64, zr190_67, zr190_68, zr190_70, zr190_73, zr190_76, zr190_77, zr190_79, zr190_82, zr190_85, zr190_88, zr190_91, zr190_93, zs_m0 N, zs_m1 N, zs_m2 N, zh_m0 ca cb cs, zb_i0, zq_kill_int, zq_kill_ref, zq_rf_some, true_and, and_true, true_implies, not_true_eq_false, not_false_eq_true, false_implies, Bool.true_eq_false, Bool.false_eq_true, Option.toList_some, List.cons_append, List.nil_append, h1, h3, hs2, hb, cd, hcan, hc, Bool.and_true, if_true]
theorem k_M_nextO0 {lv : Int32} {v2 : Value} (h10 : H 60 10 = nI W) (hW : W ≤ 7) : zq_P d 190 58 [.ref 60, .int lv, v2, .int (nI L), .int (nI (W + 1))] [] (zq_SG N, H, hl, zq_HR ca cb cs) Q = Q (some (.int (nI (W + 1)))) (zq_SG N, H, hl, zq_HR ca cb cs) := by
  have h3 : (nI (W + 1) < nI W) = False := eq_false (nI_nlt (by omega) (by omega))
  rw [zr190_58]
  simp only [zr190_0, zr190_1, zr190_3, zr190_4, zr190_5, zr190_6, zr190_11, zr190_12, zr190_15, zr190_18, zr190_19, zr190_21, zr190_24, zr190_27, zr190_30, zr190_33, zr190_35, zr190_36, zr190_39, zr190_42, zr190_43, zr190_46, zr190_47, zr190_50, zr190_51, zr190_52, zr190_55, zr190_57, zr190_60, zr190_61, zr190_64, zr190_67, zr190_68, zr190_70, zr190_73, zr190_76, zr190_77, zr190_79, zr190_82, zr190_85, zr190_88, zr190_91, zr190_93, zs_m0 N, zs_m1 N, zs_m2 N, zh_m0 ca cb cs, zq_kill_int, zq_kill_ref, zq_kill_ret, zq_kill_null, zq_kill_long, zq_rf_some, zq_rf_none, true_and, and_true, true_implies, not_true_eq_false, not_false_eq_true, false_implies, Bool.true_eq_false, Bool.false_eq_true, nI_1, zb_i0, zb_i1, zb_i2, Option.toList_some, Option.toList_none, List.cons_append, List.nil_append, true_or, or_true, implies_true, zb_it, zb_if, zb_10, zb_00, zb_n5, zb_n2, zb_m1, zb_m3, zb_m9, or_true, true_or, or_false, false_or, h10, h3]
end Z57
