/-! Rows and texts -/
theorem zb_it : zb_i true = 1 := rfl
theorem zb_if : zb_i false = 0 := rfl
theorem zb_m1 : ((-1 : Int32) < 0) = True := eq_true (by decide)
theorem zb_m3 : ((-3 : Int32) < 0) = True := eq_true (by decide)
theorem zb_m9 : ((-9 : Int32) < 0) = True := eq_true (by decide)
theorem zb_10 : ((1 : Int32) = 0) = False := eq_false (by decide)
theorem zb_00 : ((0 : Int32) < 0) = False := eq_false (by decide)
theorem zb_m40 (r : Nat) : (40 : Int32) * nI r = nI (40 * r) := pk_mul 40 r
theorem zb_m60 (r : Nat) : (60 : Int32) * nI r = nI (60 * r) := pk_mul 60 r
def zf (f : Nat → Int32) (b : Nat) (v : Int32) (k : Nat) : Nat → Int32 := fun j => if b ≤ j ∧ j < b + k then v else f j
theorem zf_0 (f : Nat → Int32) (b : Nat) (v : Int32) : zf f b v 0 = f := by
  funext j
  unfold zf
  rw [if_neg (by omega)]
theorem zq_w_self {α : Type} (h : Nat → Nat → α) (a : Nat) : zq_w h a (h a) = h := by
  funext x
  unfold zq_w
  by_cases e : x = a
  · rw [if_pos e, e]
  · rw [if_neg e]
theorem zq_w_u {h : zq_I} {a k : Nat} {f : Nat → Int32} {v : Int32} : zq_u (zq_w h a f) a k v = zq_w h a (fun j => if j = k then v else f j) := by
  funext x j
  unfold zq_u zq_w
  by_cases e : x = a
  · subst e; by_cases e2 : j = k <;> simp [e2]
  · simp [e]
theorem zf_s (f : Nat → Int32) (b : Nat) (v : Int32) (k : Nat) : (fun j => if j = b + k then v else zf f b v k j) = zf f b v (k + 1) := by
  funext j
  unfold zf
  by_cases e : j = b + k
  · rw [if_pos e, if_pos (by omega)]
  · rw [if_neg e]
    by_cases e2 : b ≤ j ∧ j < b + k
    · rw [if_pos e2, if_pos (by omega)]
    · rw [if_neg e2, if_neg (by omega)]
section Z30
variable {N ca cb cs d W P D A bb M T j : Nat} {hi : zq_I} {hl : zq_J} {hr : zq_O} {S : zq_S} {Q : Option Value → zq_G → Prop} {x z v : Int32}
theorem k_fill {p : Nat} (h1 : zq_aW S p) (h2 : zq_lS S p) (h3 : zq_ln S p = T) (hT : T ≤ 1000) : zq_P d 6 0 [.ref p, .int v, .retAddr 0, .retAddr 0] [] (S, hi, hl, hr) Q = Q none (S, zq_w hi p (zf (hi p) 0 v T), hl, hr) := by
  have loop : zq_P d 6 5 [.ref p, .int v, .int (nI 0), .int (nI T)] [] (S, zq_w hi p (zf (hi p) 0 v 0), hl, hr) Q = zq_P d 6 5 [.ref p, .int v, .int (nI T), .int (nI T)] [] (S, zq_w hi p (zf (hi p) 0 v T), hl, hr) Q := by
    refine zq_loop (f := fun k => zq_P d 6 5 [.ref p, .int v, .int (nI k), .int (nI T)] [] (S, zq_w hi p (zf (hi p) 0 v k), hl, hr) Q) fun k hk => ?_
    have x1 : zq_xS (nI k) T := zb_x (by omega) (by omega)
    have x2 : (nI k).toNatClampNeg = k := zb_cl (by omega)
    have x3 : (nI k < nI T) = True := eq_true ((nI_ltI (by omega) (by omega)).mpr hk)
    have e := zf_s (hi p) 0 v k
    rw [Nat.zero_add] at e
    rw [zr6_5]
    simp only [zr6_0, zr6_1, zr6_2, zr6_3, zr6_4, zr6_6, zr6_7, zr6_10, zr6_11, zr6_12, zr6_13, zr6_14, zr6_17, zr6_20, h1, h2, h3, x1, x2, x3, zq_kill_int, zq_kill_ref, zq_kill_ret, zq_kill_null, zq_kill_long, zq_rf_some, zq_rf_none, true_and, and_true, true_implies, not_true_eq_false, not_false_eq_true, false_implies, Bool.true_eq_false, Bool.false_eq_true, nI_1, zb_i0, zb_i1, zb_i2, Option.toList_some, Option.toList_none, List.cons_append, List.nil_append, true_or, or_true, implies_true, zq_w_u, e]
  have x3 : (nI T < nI T) = False := eq_false (nI_nlt (Nat.le_refl _) (by omega))
  rw [zf_0, zq_w_self] at loop
  simp only [zr6_0, zr6_1, zr6_2, zr6_3, zr6_4, zr6_6, zr6_7, zr6_10, zr6_11, zr6_12, zr6_13, zr6_14, zr6_17, zr6_20, h2, h3, zq_kill_int, zq_kill_ref, zq_kill_ret, zq_kill_null, zq_kill_long, zq_rf_some, zq_rf_none, true_and, and_true, true_implies, not_true_eq_false, not_false_eq_true, false_implies, Bool.true_eq_false, Bool.false_eq_true, nI_1, zb_i0, zb_i1, zb_i2, Option.toList_some, Option.toList_none, List.cons_append, List.nil_append, true_or, or_true, implies_true]
  refine Eq.trans loop ?_
  rw [zr6_5]
  simp only [zr6_0, zr6_1, zr6_2, zr6_3, zr6_4, zr6_6, zr6_7, zr6_10, zr6_11, zr6_12, zr6_13, zr6_14, zr6_17, zr6_20, x3, zq_kill_int, zq_kill_ref, zq_kill_ret, zq_kill_null, zq_kill_long, zq_rf_some, zq_rf_none, true_and, and_true, true_implies, not_true_eq_false, not_false_eq_true, false_implies, Bool.true_eq_false, Bool.false_eq_true, nI_1, zb_i0, zb_i1, zb_i2, Option.toList_some, Option.toList_none, List.cons_append, List.nil_append, true_or, or_true, implies_true]
theorem k_EF_stripAt_bad (hs : zq_Ss (zq_SG N) (zq_HR ca cb cs) A bb M T) (h : x < 0 ∨ ¬ x < nI M) : zq_P d 11 0 [.ref A, .int x] [] (zq_SG N, hi, hl, zq_HR ca cb cs) Q = Q (some .null) (zq_SG N, hi, hl, zq_HR ca cb cs) := by
  obtain ⟨hA, -⟩ := hs
  simp only [zr11_0, zr11_1, zr11_4, zr11_5, zr11_6, zr11_7, zr11_10, zr11_11, zr11_12, zr11_13, zr11_16, zr11_17, zr11_17n, hA, zq_kill_int, zq_kill_ref, zq_kill_ret, zq_kill_null, zq_kill_long, zq_rf_some, zq_rf_none, true_and, and_true, true_implies, not_true_eq_false, not_false_eq_true, false_implies, Bool.true_eq_false, Bool.false_eq_true, nI_1, zb_i0, zb_i1, zb_i2, Option.toList_some, Option.toList_none, List.cons_append, List.nil_append, true_or, or_true, implies_true]
  rcases h with h | h
  · simp [h]
  · by_cases q : x < 0 <;> simp [q, h]
theorem k_EF_stripAt (hs : zq_Ss (zq_SG N) (zq_HR ca cb cs) A bb M T) (hM : M ≤ 6) (hj : j < M) : zq_P d 11 0 [.ref A, .int (nI j)] [] (zq_SG N, hi, hl, zq_HR ca cb cs) Q = Q (some (.ref (bb + 2 * j))) (zq_SG N, hi, hl, zq_HR ca cb cs) := by
  obtain ⟨hA, hr⟩ := hs
  have h1 : zq_xS (nI j) M := zb_x (by omega) (by omega)
  have h2 : (nI j).toNatClampNeg = j := zb_cl (by omega)
  have h3 : (nI j < nI M) = True := eq_true ((nI_ltI (by omega) (by omega)).mpr hj)
  have h4 : (nI j < 0) = False := eq_false (nI_pos (by omega))
  simp only [zr11_0, zr11_1, zr11_4, zr11_5, zr11_6, zr11_7, zr11_10, zr11_11, zr11_12, zr11_13, zr11_16, zr11_17, zr11_17n, hA, h1, h2, h3, h4, (hr j hj).1, zq_kill_int, zq_kill_ref, zq_kill_ret, zq_kill_null, zq_kill_long, zq_rf_some, zq_rf_none, true_and, and_true, true_implies, not_true_eq_false, not_false_eq_true, false_implies, Bool.true_eq_false, Bool.false_eq_true, nI_1, zb_i0, zb_i1, zb_i2, Option.toList_some, Option.toList_none, List.cons_append, List.nil_append, true_or, or_true, implies_true]
theorem zm_in_bad {M1 : Int32} (h : x < 0 ∨ ¬ x < nI M) (hM : M1.toInt = (M : Int) - 1) (hM2 : M ≤ 1000) : zm_in x 0 M1 = false := by
  unfold zm_in
  rw [decide_eq_false_iff_not]
  rintro ⟨a1, a2⟩
  rcases h with h | h
  · exact a1 h
  · rw [Int32.lt_iff_toInt_lt, nI_toInt (by omega)] at h
    rw [Int32.lt_iff_toInt_lt, hM] at a2
    omega
theorem zm_in_ok {M1 : Int32} (hj : j < M) (hM : M1.toInt = (M : Int) - 1) (hM2 : M ≤ 1000) : zm_in (nI j) 0 M1 = true := by
  unfold zm_in
  rw [decide_eq_true_eq]
  refine ⟨nI_pos (by omega), ?_⟩
  rw [Int32.lt_iff_toInt_lt, hM, nI_toInt (by omega)]
  omega
/-- an index: out, or in -/
theorem zb_ix (x : Int32) (M : Nat) (hM : M ≤ 1000) : (x < 0 ∨ ¬ x < nI M) ∨ ∃ j, j < M ∧ x = nI j := by
  by_cases h : x < 0
  · exact Or.inl (Or.inl h)
  · by_cases h2 : x < nI M
    · obtain ⟨j, hj, rfl⟩ := nI_of h
      exact Or.inr ⟨j, (nI_ltI (by omega) (by omega)).mp h2, rfl⟩
    · exact Or.inl (Or.inr h2)
def keepc (a : Nat) : Prop := (24 ≤ a ∧ a ≤ 34) ∨ (36 ≤ a ∧ a ≤ 53) ∨ (67 ≤ a ∧ a ≤ 71) ∨ (74 ≤ a ∧ a ≤ 78)
theorem Sim.fr2 {cs2 : Nat} {hi2 : zq_I} {hl2 : zq_J} (h : Sim hi hl ca cb cs W P D) (hcs : cs2 = 36 ∨ cs2 = 45) (e : ∀ a, keepc a → hi2 a = hi a) (e1 : hi2 60 10 = hi 60 10 ∧ hi2 60 11 = hi 60 11 ∧ hi2 60 12 = hi 60 12) (e2 : hi2 60 25 = hi 60 25 ∧ hi2 60 26 = hi 60 26 ∧ hi2 60 27 = hi 60 27 ∧ hi2 60 30 = hi 60 30) (ht : sm_tl hi2 hl2) (hr : sm_st hi2 2 62 63 6 40) (hx : sm_st hi2 15 65 66 4 60) : Sim hi2 hl2 ca cb cs2 W P D := by
  have hcc := h.court
  obtain ⟨h1, h2, h3, h4, h5, h6, h7⟩ := h
  exact ⟨h1, hcs, ht, hr, hx, sm_ct_fr h6 (fun a ha => e a (by unfold keepc; omega)) e1, sm_dd_fr h7 (fun a ha => e a (by unfold keepc; omega)) e2⟩
end Z30
section Z30b
variable {N : Nat} {x z v : Int32}
theorem p_at : zq_pair N 17 115 [.ref 0, .int x, .int z, .retAddr 0] [.ref 60, .int x, .int z, .retAddr 0] := by
  intro hi hl ca cb cs W P D h
  have hs := zq_Ss_rows (N := N) (ca := ca) (cb := cb) (cs := cs)
  rcases zb_ix x 6 (by omega) with hx | ⟨j, hj, rfl⟩
  · refine ⟨.int (-1), hi, hl, ca, cb, cs, hi, hl, W, P, D, fun Q => ?_, fun Q => ?_, h⟩
    · simp only [zr17_0, zr17_1, zr17_4, zr17_5, zr17_8, zr17_8n, zr17_9, zr17_9n, zr17_10, zr17_10n, zr17_13, zr17_14, zr17_15, zr17_15n, zr17_16, zr17_19, zr17_22, zr17_23, zr17_24, zr17_27, zr17_28, zr17_28n, zr17_29, zr17_30, zr17_33, zr17_36, zr17_37, zr17_38, zr17_41, zr17_42, zr17_43, zr17_43n, zr17_44, zr17_47, zr17_48, zr17_49, zr17_52, zr17_53, zs_x0 N, zh_x0 ca cb cs, zq_kill_int, zq_kill_ref, zq_kill_ret, zq_kill_null, zq_kill_long, zq_rf_some, zq_rf_none, true_and, and_true, true_implies, not_true_eq_false, not_false_eq_true, false_implies, Bool.true_eq_false, Bool.false_eq_true, nI_1, zb_i0, zb_i1, zb_i2, Option.toList_some, Option.toList_none, List.cons_append, List.nil_append, true_or, or_true, implies_true, zb_it, zb_if, zb_10, zb_00, zb_n5, zb_n2, zb_m1, zb_m3, zb_m9, or_true, true_or, or_false, false_or, k_EF_stripAt_bad hs hx]
    · simp only [zr115_0, zr115_1, zr115_2, zr115_5, zr115_6, zr115_7, zr115_10, zr115_11, zr115_12, zr115_13, zr115_14, zr115_15, zr115_18, zr115_19, zr115_20, zr115_21, zr115_22, zr115_25, zr115_28, zr115_29, zr115_30, zr115_31, zr115_32, zr115_35, zr115_36, zr115_39, zr115_42, zr115_43, zr115_44, zr115_47, zr116_0, zr116_1, zr116_4, zr116_7, zr116_8, zr116_11, zr116_12, zr116_15, zr116_16, zr116_17, zr116_20, zr116_21, zr116_22, zr116_25, zr116_28, zr116_29, zr111_0, zr111_1, zr111_2, zr111_3, zr111_6, zs_m0 N, zs_m1 N, zs_m2 N, zh_m0 ca cb cs, zq_kill_int, zq_kill_ref, zq_kill_ret, zq_kill_null, zq_kill_long, zq_rf_some, zq_rf_none, true_and, and_true, true_implies, not_true_eq_false, not_false_eq_true, false_implies, Bool.true_eq_false, Bool.false_eq_true, nI_1, zb_i0, zb_i1, zb_i2, Option.toList_some, Option.toList_none, List.cons_append, List.nil_append, true_or, or_true, implies_true, zb_it, zb_if, zb_10, zb_00, zb_n5, zb_n2, zb_m1, zb_m3, zb_m9, or_true, true_or, or_false, false_or, k_M_in, zm_in_bad (M1 := 5) hx (by decide) (by omega)]
  · have hin := zm_in_ok (M1 := 5) hj (by decide) (by omega)
    have hsp := (hs.2 j hj).2
    unfold zq_Sp at hsp
    have h1 : zq_xS (nI j) 6 := zb_x (by omega) (by omega)
    have h2 : (nI j).toNatClampNeg = j := zb_cl (by omega)
    have hm3 : ((-3 : Int32) < 0) = True := eq_true (by decide)
    rcases h.2.2.2.1 j hj with ⟨e1, e2⟩ | ⟨n, hn, e1, e2, e3⟩
    · have q1 : ((-1 : Int32) < 0) = True := eq_true (by decide)
      have q2 : ((-9 : Int32) < 0) = True := eq_true (by decide)
      refine ⟨.int (-3), cf hi 1, hl, ca, cb, cs, mf (cf hi 1) 1, hl, W, P, D, fun Q => ?_, fun Q => ?_, h.meet (by omega)⟩
      · simp only [zr17_0, zr17_1, zr17_4, zr17_5, zr17_8, zr17_8n, zr17_9, zr17_9n, zr17_10, zr17_10n, zr17_13, zr17_14, zr17_15, zr17_15n, zr17_16, zr17_19, zr17_22, zr17_23, zr17_24, zr17_27, zr17_28, zr17_28n, zr17_29, zr17_30, zr17_33, zr17_36, zr17_37, zr17_38, zr17_41, zr17_42, zr17_43, zr17_43n, zr17_44, zr17_47, zr17_48, zr17_49, zr17_52, zr17_53, zr15_0, zr15_1, zr15_4, zr15_7, zr15_8, zr15_11, zr15_12, zs_x0 N, zh_x0 ca cb cs, hsp, zq_kill_int, zq_kill_ref, zq_kill_ret, zq_kill_null, zq_kill_long, zq_rf_some, zq_rf_none, true_and, and_true, true_implies, not_true_eq_false, not_false_eq_true, false_implies, Bool.true_eq_false, Bool.false_eq_true, nI_1, zb_i0, zb_i1, zb_i2, Option.toList_some, Option.toList_none, List.cons_append, List.nil_append, true_or, or_true, implies_true, zb_it, zb_if, zb_10, zb_00, zb_n5, zb_n2, zb_m1, zb_m3, zb_m9, or_true, true_or, or_false, false_or, k_EF_stripAt hs (show 6 ≤ 6 by omega) hj, e1, q1, k_EF_found1]
      · have e4 : cf hi 1 62 j = -9 := by unfold cf; simp [zq_u, e2]
        simp only [zr115_0, zr115_1, zr115_2, zr115_5, zr115_6, zr115_7, zr115_10, zr115_11, zr115_12, zr115_13, zr115_14, zr115_15, zr115_18, zr115_19, zr115_20, zr115_21, zr115_22, zr115_25, zr115_28, zr115_29, zr115_30, zr115_31, zr115_32, zr115_35, zr115_36, zr115_39, zr115_42, zr115_43, zr115_44, zr115_47, zr116_0, zr116_1, zr116_4, zr116_7, zr116_8, zr116_11, zr116_12, zr116_15, zr116_16, zr116_17, zr116_20, zr116_21, zr116_22, zr116_25, zr116_28, zr116_29, zr111_0, zr111_1, zr111_2, zr111_3, zr111_6, zs_m0 N, zs_m1 N, zs_m2 N, zh_m0 ca cb cs, zq_kill_int, zq_kill_ref, zq_kill_ret, zq_kill_null, zq_kill_long, zq_rf_some, zq_rf_none, true_and, and_true, true_implies, not_true_eq_false, not_false_eq_true, false_implies, Bool.true_eq_false, Bool.false_eq_true, nI_1, zb_i0, zb_i1, zb_i2, Option.toList_some, Option.toList_none, List.cons_append, List.nil_append, true_or, or_true, implies_true, zb_it, zb_if, zb_10, zb_00, zb_n5, zb_n2, zb_m1, zb_m3, zb_m9, or_true, true_or, or_false, false_or, k_M_in, hin, h1, h2, e4, q2, k_M_meet1, hm3]
    · have q1 : (nI n < 0) = False := eq_false (nI_pos (by omega))
      by_cases hz : ¬ z < 0 ∧ z < nI n
      · obtain ⟨i, hi0, rfl⟩ := nI_of hz.1
        have hin2 : i < n := (nI_ltI (by omega) (by omega)).mp hz.2
        have x1 : zq_xS (nI i) 40 := zb_x (by omega) (by omega)
        have x2 : (nI i).toNatClampNeg = i := zb_cl (by omega)
        have x3 : zq_xS (nI (40 * j + i)) 240 := zb_x (by omega) (by omega)
        have x4 : (nI (40 * j + i)).toNatClampNeg = 40 * j + i := zb_cl (by omega)
        refine ⟨.int 1, zq_u hi 0 9 (hi (2 + 1 + 2 * j) i), hl, ca, cb, cs, zq_u (zq_u hi 0 9 (hi (2 + 1 + 2 * j) i)) 60 2 (hi (2 + 1 + 2 * j) i), hl, W, P, D, fun Q => ?_, fun Q => ?_, h.ask _⟩
        · simp only [zr17_0, zr17_1, zr17_4, zr17_5, zr17_8, zr17_8n, zr17_9, zr17_9n, zr17_10, zr17_10n, zr17_13, zr17_14, zr17_15, zr17_15n, zr17_16, zr17_19, zr17_22, zr17_23, zr17_24, zr17_27, zr17_28, zr17_28n, zr17_29, zr17_30, zr17_33, zr17_36, zr17_37, zr17_38, zr17_41, zr17_42, zr17_43, zr17_43n, zr17_44, zr17_47, zr17_48, zr17_49, zr17_52, zr17_53, zr15_0, zr15_1, zr15_4, zr15_7, zr15_8, zr15_11, zr15_12, zr16_0, zr16_1, zr16_4, zr16_5, zr16_6, zr16_9, zr16_12, zr16_13, zr16_16, zr16_17, zs_x0 N, zh_x0 ca cb cs, hsp, zq_kill_int, zq_kill_ref, zq_kill_ret, zq_kill_null, zq_kill_long, zq_rf_some, zq_rf_none, true_and, and_true, true_implies, not_true_eq_false, not_false_eq_true, false_implies, Bool.true_eq_false, Bool.false_eq_true, nI_1, zb_i0, zb_i1, zb_i2, Option.toList_some, Option.toList_none, List.cons_append, List.nil_append, true_or, or_true, implies_true, zb_it, zb_if, zb_10, zb_00, zb_n5, zb_n2, zb_m1, zb_m3, zb_m9, or_true, true_or, or_false, false_or, k_EF_stripAt hs (show 6 ≤ 6 by omega) hj, e1, q1, hz, x1, x2]
        · have e4 : zq_u hi 0 9 (hi (2 + 1 + 2 * j) i) 62 j = nI n := by simp [zq_u, e2]
          have e5 : zq_u hi 0 9 (hi (2 + 1 + 2 * j) i) 63 (40 * j + i) = hi (2 + 1 + 2 * j) i := by rw [e3 i hin2]; simp [zq_u]
          simp only [zr115_0, zr115_1, zr115_2, zr115_5, zr115_6, zr115_7, zr115_10, zr115_11, zr115_12, zr115_13, zr115_14, zr115_15, zr115_18, zr115_19, zr115_20, zr115_21, zr115_22, zr115_25, zr115_28, zr115_29, zr115_30, zr115_31, zr115_32, zr115_35, zr115_36, zr115_39, zr115_42, zr115_43, zr115_44, zr115_47, zr116_0, zr116_1, zr116_4, zr116_7, zr116_8, zr116_11, zr116_12, zr116_15, zr116_16, zr116_17, zr116_20, zr116_21, zr116_22, zr116_25, zr116_28, zr116_29, zr111_0, zr111_1, zr111_2, zr111_3, zr111_6, zr117_0, zr117_1, zr117_4, zr117_6, zr117_7, zr117_8, zr117_9, zr117_10, zr117_11, zr118_0, zr118_1, zr118_2, zr118_5, zr118_6, zs_m0 N, zs_m1 N, zs_m2 N, zh_m0 ca cb cs, zq_kill_int, zq_kill_ref, zq_kill_ret, zq_kill_null, zq_kill_long, zq_rf_some, zq_rf_none, true_and, and_true, true_implies, not_true_eq_false, not_false_eq_true, false_implies, Bool.true_eq_false, Bool.false_eq_true, nI_1, zb_i0, zb_i1, zb_i2, Option.toList_some, Option.toList_none, List.cons_append, List.nil_append, true_or, or_true, implies_true, zb_it, zb_if, zb_10, zb_00, zb_n5, zb_n2, zb_m1, zb_m3, zb_m9, or_true, true_or, or_false, false_or, k_M_in, hin, h1, h2, e4, q1, zm_isWay (show n ≤ 1000 by omega), hz, and_self, decide_true, zb_m40, nI_add, x3, x4, e5]
      · refine ⟨.int (-3), cf hi 2, hl, ca, cb, cs, mf (cf hi 2) 2, hl, W, P, D, fun Q => ?_, fun Q => ?_, h.meet (by omega)⟩
        · simp only [zr17_0, zr17_1, zr17_4, zr17_5, zr17_8, zr17_8n, zr17_9, zr17_9n, zr17_10, zr17_10n, zr17_13, zr17_14, zr17_15, zr17_15n, zr17_16, zr17_19, zr17_22, zr17_23, zr17_24, zr17_27, zr17_28, zr17_28n, zr17_29, zr17_30, zr17_33, zr17_36, zr17_37, zr17_38, zr17_41, zr17_42, zr17_43, zr17_43n, zr17_44, zr17_47, zr17_48, zr17_49, zr17_52, zr17_53, zr15_0, zr15_1, zr15_4, zr15_7, zr15_8, zr15_11, zr15_12, zr16_0, zr16_1, zr16_4, zr16_5, zr16_6, zr16_9, zr16_12, zr16_13, zr16_16, zr16_17, zs_x0 N, zh_x0 ca cb cs, hsp, zq_kill_int, zq_kill_ref, zq_kill_ret, zq_kill_null, zq_kill_long, zq_rf_some, zq_rf_none, true_and, and_true, true_implies, not_true_eq_false, not_false_eq_true, false_implies, Bool.true_eq_false, Bool.false_eq_true, nI_1, zb_i0, zb_i1, zb_i2, Option.toList_some, Option.toList_none, List.cons_append, List.nil_append, true_or, or_true, implies_true, zb_it, zb_if, zb_10, zb_00, zb_n5, zb_n2, zb_m1, zb_m3, zb_m9, or_true, true_or, or_false, false_or, k_EF_stripAt hs (show 6 ≤ 6 by omega) hj, e1, q1, k_EF_found2]
          by_cases z1 : z < 0
          · simp [z1]
          · by_cases z2 : z < nI n
            · exact absurd ⟨z1, z2⟩ hz
            · simp [z1, z2]
        · have e4 : cf hi 2 62 j = nI n := by unfold cf; simp [zq_u, e2]
          simp only [zr115_0, zr115_1, zr115_2, zr115_5, zr115_6, zr115_7, zr115_10, zr115_11, zr115_12, zr115_13, zr115_14, zr115_15, zr115_18, zr115_19, zr115_20, zr115_21, zr115_22, zr115_25, zr115_28, zr115_29, zr115_30, zr115_31, zr115_32, zr115_35, zr115_36, zr115_39, zr115_42, zr115_43, zr115_44, zr115_47, zr116_0, zr116_1, zr116_4, zr116_7, zr116_8, zr116_11, zr116_12, zr116_15, zr116_16, zr116_17, zr116_20, zr116_21, zr116_22, zr116_25, zr116_28, zr116_29, zr111_0, zr111_1, zr111_2, zr111_3, zr111_6, zs_m0 N, zs_m1 N, zs_m2 N, zh_m0 ca cb cs, zq_kill_int, zq_kill_ref, zq_kill_ret, zq_kill_null, zq_kill_long, zq_rf_some, zq_rf_none, true_and, and_true, true_implies, not_true_eq_false, not_false_eq_true, false_implies, Bool.true_eq_false, Bool.false_eq_true, nI_1, zb_i0, zb_i1, zb_i2, Option.toList_some, Option.toList_none, List.cons_append, List.nil_append, true_or, or_true, implies_true, zb_it, zb_if, zb_10, zb_00, zb_n5, zb_n2, zb_m1, zb_m3, zb_m9, or_true, true_or, or_false, false_or, k_M_in, hin, h1, h2, e4, q1, zm_isWay (show n ≤ 1000 by omega), hz, decide_false, k_M_meet2]
end Z30b
