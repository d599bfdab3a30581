/-! least, behind the search -/
section Z53
variable {N ca cb cs c d W P D n k w j : Nat} {hi C C2 M M2 H K : zq_I} {hl hl2 : zq_J} {Q : Option Value → zq_G → Prop} {t : Nat → Nat} {may b0 : Int32}
theorem okm_jn : okm W P may (jn K M) = okm W P may M := by
  funext w
  unfold okm
  rw [cano_jn, zm_needs_jn]
theorem ex_jn : ∀ m k M s π a, ex (okm W P may) W t m k (jn K M) s π a = ex (okm W P may) W t m k M s π a := by
  intro m
  induction m with
  | zero => intros; rfl
  | succ m ih =>
    intro k M s π a
    rw [ex_s, ex_s]
    congr 1
    funext w a
    rw [okm_jn, zm_go_jn, ih]
theorem ex_lo (h : ∀ a, 60 ≤ a → M2 a = M a) (m k s : Nat) (π : Nat → Nat) (a : exT) : ex (okm W P may) W t m k M2 s π a = ex (okm W P may) W t m k M s π a := by
  have e := ex_jn (W := W) (P := P) (may := may) (t := t) (K := M2) m k M s π a
  rw [← jn_of h] at e
  exact e
theorem cnp_jn : ∀ m M, cnp (okm W P may) W m (jn K M) = cnp (okm W P may) W m M := by
  intro m
  induction m with
  | zero => intros; rfl
  | succ m ih =>
    intro M
    rw [cnp_s, cnp_s]
    congr 1
    funext w a
    rw [okm_jn, zm_go_jn, ih]
theorem cnp_lo (h : ∀ a, 60 ≤ a → M2 a = M a) (m : Nat) : cnp (okm W P may) W m M2 = cnp (okm W P may) W m M := by
  have e := cnp_jn (W := W) (P := P) (may := may) (K := M2) m M
  rw [← jn_of h] at e
  exact e
theorem Mok_lo (h : ∀ a, 60 ≤ a → M2 a = M a) (hM : Mok W P t M) : Mok W P t M2 := by
  unfold Mok at hM ⊢
  rw [h 60 (by omega), h 67 (by omega), zm_tr_fr (h 69 (by omega)) (h 70 (by omega))]
  exact hM
theorem bx_none {ok : zq_I → Nat → Bool} : ∀ m k M s π b, bx ok W t m k M s π b = none ↔ b = none ∧ cnp ok W m M = 0 := by
  intro m
  induction m with
  | zero =>
    intro k M s π b
    constructor
    · intro h
      exfalso
      cases b with
      | none => cases h
      | some cr =>
        obtain ⟨c, ρ⟩ := cr
        have h2 : (if s < c then some (s, π) else some (c, ρ)) = none := h
        split at h2 <;> cases h2
    · rintro ⟨-, h⟩
      cases h
  | succ m ih =>
    intro k M s π b
    rw [bx_s, cnp_s]
    have key : ∀ v, fo (fun w b => if ok M w = true then bx ok W t m (k + 1) (zm_go M w) (s + t w) (upn π k w) b else b) v b = none ↔ b = none ∧ fo (fun w s => if ok M w = true then s + cnp ok W m (zm_go M w) else s) v 0 = 0 := by
      intro v
      induction v with
      | zero => exact ⟨fun h => ⟨h, rfl⟩, fun h => h.1⟩
      | succ v ihv =>
        simp only [fo_s]
        by_cases e : ok M v = true
        · rw [if_pos e, if_pos e, ih, ihv]
          constructor
          · rintro ⟨⟨a1, a2⟩, a3⟩; exact ⟨a1, by omega⟩
          · rintro ⟨a1, a2⟩; exact ⟨⟨a1, by omega⟩, by omega⟩
        · rw [if_neg e, if_neg e, ihv]
    exact key W
/-- a line is laid into a row -/
def laf (f g : Nat → Int32) (j n k : Nat) : Nat → Int32 := fun i => if 40 * j ≤ i ∧ i < 40 * j + k then (if i - 40 * j < n then g (i - 40 * j) else 0) else f i
theorem laf_s (f g : Nat → Int32) (j n k : Nat) : (fun i => if i = 40 * j + k then (if k < n then g k else 0) else laf f g j n k i) = laf f g j n (k + 1) := by
  funext i
  unfold laf
  by_cases e : i = 40 * j + k
  · subst e
    rw [if_pos rfl, if_pos (show 40 * j ≤ 40 * j + k ∧ 40 * j + k < 40 * j + (k + 1) by omega), show 40 * j + k - 40 * j = k by omega]
  · rw [if_neg e]
    by_cases q : 40 * j ≤ i ∧ i < 40 * j + k
    · rw [if_pos q, if_pos (show 40 * j ≤ i ∧ i < 40 * j + (k + 1) by omega)]
    · rw [if_neg q, if_neg (show ¬ (40 * j ≤ i ∧ i < 40 * j + (k + 1)) by omega)]
theorem laf_0 (f g : Nat → Int32) (j n : Nat) : laf f g j n 0 = f := by
  funext i
  unfold laf
  rw [if_neg (by omega)]
theorem k_M_layLine {A : Nat} (hA : zq_aS (zq_SG N) A ∧ zq_ln (zq_SG N) A = 7) (a1 : A ≠ 62) (a2 : A ≠ 63) (hj : j < 6) (hn : n ≤ 6) : zq_P (d + 1) 177 0 [.ref 60, .ref A, .int (nI n), .int (nI j), .retAddr 0] [] (zq_SG N, H, hl, zq_HR ca cb cs) Q = Q none (zq_SG N, zq_w (zq_u H 62 j (nI n)) 63 (laf (H 63) (H A) j n 40), hl, zq_HR ca cb cs) := by
  have h1 : zq_xS (nI j) 6 := zb_x (by omega) (by omega)
  have h2 : (nI j).toNatClampNeg = j := zb_cl (by omega)
  have i40 : ∀ k, k ≤ 40 → (nI k < 40) = (k < 40) := fun k hk => zb_lt (b := 40) (by omega) (by omega)
  have loop := zq_loop (n := 40) (f := fun k => zq_P (d + 1) 177 10 [.ref 60, .ref A, .int (nI n), .int (nI j), .int (nI k)] [] (zq_SG N, zq_w (zq_u H 62 j (nI n)) 63 (laf (H 63) (H A) j n k), hl, zq_HR ca cb cs) Q) fun k hk => by
    have x3 : zq_xS (nI (40 * j + k)) 240 := zb_x (by omega) (by omega)
    have x4 : (nI (40 * j + k)).toNatClampNeg = 40 * j + k := zb_cl (by omega)
    have e1 : ∀ f, zq_w (zq_u H 62 j (nI n)) 63 f A = H A := fun f => by rw [zq_w_ne a2, zq_u_ne a1]
    have h3 : (nI k < 40) = True := by rw [i40 k (by omega)]; exact eq_true hk
    rw [zr177_10]
    by_cases q : k < n
    · have y1 : zq_xS (nI k) 7 := zb_x (by omega) (by omega)
      have y2 : (nI k).toNatClampNeg = k := zb_cl (by omega)
      have q2 : (nI k < nI n) = True := eq_true ((nI_ltI (by omega) (by omega)).mpr q)
      have l := laf_s (H 63) (H A) j n k
      rw [if_pos q] at l
      simp only [zr177_0, zr177_1, zr177_4, zr177_5, zr177_6, zr177_7, zr177_8, zr177_12, zr177_14, zr177_17, zr177_18, zr177_19, zr177_21, zr177_23, zr177_24, zr177_27, zr177_28, zr177_30, zr177_31, zr177_34, zr177_35, zr177_38, zr177_41, zr177_44, zr114_0, zr114_1, zr114_4, zr114_6, zr114_7, zr114_8, zr114_9, zr114_10, zr114_11, zr114_12, zs_m0 N, zs_m1 N, zs_m2 N, zh_m0 ca cb cs, hA, zq_kill_int, zq_kill_ref, zq_kill_ret, zq_kill_null, zq_kill_long, zq_rf_some, zq_rf_none, true_and, and_true, true_implies, not_true_eq_false, not_false_eq_true, false_implies, Bool.true_eq_false, Bool.false_eq_true, nI_1, zb_i0, zb_i1, zb_i2, Option.toList_some, Option.toList_none, List.cons_append, List.nil_append, true_or, or_true, implies_true, zb_it, zb_if, zb_10, zb_00, zb_n5, zb_n2, zb_m1, zb_m3, zb_m9, or_true, true_or, or_false, false_or, h3, q2, y1, y2, e1, zb_m40, nI_add, x3, x4, zq_w_u, l]
    · have q2 : (nI k < nI n) = False := eq_false (nI_nlt (by omega) (by omega))
      have l := laf_s (H 63) (H A) j n k
      rw [if_neg q] at l
      simp only [zr177_0, zr177_1, zr177_4, zr177_5, zr177_6, zr177_7, zr177_8, zr177_12, zr177_14, zr177_17, zr177_18, zr177_19, zr177_21, zr177_23, zr177_24, zr177_27, zr177_28, zr177_30, zr177_31, zr177_34, zr177_35, zr177_38, zr177_41, zr177_44, zr114_0, zr114_1, zr114_4, zr114_6, zr114_7, zr114_8, zr114_9, zr114_10, zr114_11, zr114_12, zs_m0 N, zs_m1 N, zs_m2 N, zh_m0 ca cb cs, hA, zq_kill_int, zq_kill_ref, zq_kill_ret, zq_kill_null, zq_kill_long, zq_rf_some, zq_rf_none, true_and, and_true, true_implies, not_true_eq_false, not_false_eq_true, false_implies, Bool.true_eq_false, Bool.false_eq_true, nI_1, zb_i0, zb_i1, zb_i2, Option.toList_some, Option.toList_none, List.cons_append, List.nil_append, true_or, or_true, implies_true, zb_it, zb_if, zb_10, zb_00, zb_n5, zb_n2, zb_m1, zb_m3, zb_m9, or_true, true_or, or_false, false_or, h3, q2, zb_m40, nI_add, x3, x4, zq_w_u, l]
  have f40 : (nI 40 < 40) = False := eq_false (by decide)
  rw [laf_0] at loop
  have e0 : zq_w (zq_u H 62 j (nI n)) 63 (H 63) = zq_u H 62 j (nI n) := by
    have : zq_u H 62 j (nI n) 63 = H 63 := zq_u_ne (by omega)
    rw [← this]
    exact zq_w_self _ _
  rw [e0] at loop
  simp only [zr177_0, zr177_1, zr177_4, zr177_5, zr177_6, zr177_7, zr177_8, zr177_12, zr177_14, zr177_17, zr177_18, zr177_19, zr177_21, zr177_23, zr177_24, zr177_27, zr177_28, zr177_30, zr177_31, zr177_34, zr177_35, zr177_38, zr177_41, zr177_44, zs_m0 N, zs_m1 N, zs_m2 N, zh_m0 ca cb cs, hA, zq_kill_int, zq_kill_ref, zq_kill_ret, zq_kill_null, zq_kill_long, zq_rf_some, zq_rf_none, true_and, and_true, true_implies, not_true_eq_false, not_false_eq_true, false_implies, Bool.true_eq_false, Bool.false_eq_true, nI_1, zb_i0, zb_i1, zb_i2, Option.toList_some, Option.toList_none, List.cons_append, List.nil_append, true_or, or_true, implies_true, zb_it, zb_if, zb_10, zb_00, zb_n5, zb_n2, zb_m1, zb_m3, zb_m9, or_true, true_or, or_false, false_or, h1, h2]
  refine Eq.trans loop ?_
  rw [zr177_10]
  simp only [zr177_0, zr177_1, zr177_4, zr177_5, zr177_6, zr177_7, zr177_8, zr177_12, zr177_14, zr177_17, zr177_18, zr177_19, zr177_21, zr177_23, zr177_24, zr177_27, zr177_28, zr177_30, zr177_31, zr177_34, zr177_35, zr177_38, zr177_41, zr177_44, zq_kill_int, zq_kill_ref, zq_kill_ret, zq_kill_null, zq_kill_long, zq_rf_some, zq_rf_none, true_and, and_true, true_implies, not_true_eq_false, not_false_eq_true, false_implies, Bool.true_eq_false, Bool.false_eq_true, nI_1, zb_i0, zb_i1, zb_i2, Option.toList_some, Option.toList_none, List.cons_append, List.nil_append, true_or, or_true, implies_true, zb_it, zb_if, zb_10, zb_00, zb_n5, zb_n2, zb_m1, zb_m3, zb_m9, or_true, true_or, or_false, false_or, f40]
theorem Sim.searchR (h : Sim hi hl ca cb cs W P D) (hj : j < 6) (hn : n ≤ 40) (h1 : ∀ a, a < 54 ∨ 59 < a → a ≠ 2 + 2 * j → a ≠ 2 + 1 + 2 * j → C2 a = hi a) (h2 : ∀ a, a < 60 → M2 a = C2 a) (h3 : ∀ a, 60 < a → a < 79 → a ≠ 62 → a ≠ 63 → M2 a = C2 a) (h4 : ∀ f, f < 31 → M2 60 f = C2 60 f) (s1 : C2 (2 + 2 * j) 1 = nI n) (s2 : M2 62 j = nI n) (s3 : ∀ r, r ≠ j → M2 62 r = C2 62 r) (s4 : ∀ k, k < n → C2 (2 + 1 + 2 * j) k = M2 63 (40 * j + k)) (s5 : ∀ i, i < 40 * j ∨ 40 * j + 40 ≤ i → M2 63 i = C2 63 i) : Sim M2 hl ca cb ca W P D := by
  have hca := h.court
  have k1 : ∀ a, a < 54 → a ≠ 2 + 2 * j → a ≠ 2 + 1 + 2 * j → M2 a = hi a := fun a a1 a2 a3 => by rw [h2 a (by omega), h1 a (by omega) a2 a3]
  have k2 : ∀ a, 60 < a → a < 79 → a ≠ 62 → a ≠ 63 → M2 a = hi a := fun a a1 a2 a3 a4 => by rw [h3 a a1 a2 a3 a4, h1 a (by omega) (by omega) (by omega)]
  have k3 : ∀ f, f < 31 → M2 60 f = hi 60 f := fun f f2 => by rw [h4 f f2, h1 60 (by omega) (by omega) (by omega)]
  refine h.fr2 hca (fun a ha => ?_) ⟨k3 _ (by omega), k3 _ (by omega), k3 _ (by omega)⟩ ⟨k3 _ (by omega), k3 _ (by omega), k3 _ (by omega), k3 _ (by omega)⟩ ?_ ?_ ?_
  · unfold keepc at ha
    rcases Nat.lt_or_ge a 54 with q | q
    · exact k1 a q (by omega) (by omega)
    · exact k2 a (by omega) (by omega) (by omega) (by omega)
  · obtain ⟨t1, t2, t3, t4, t5⟩ := h.2.2.1
    refine ⟨?_, t2, t3, ?_, fun f hf => ?_⟩
    · rw [k1 0 (by omega) (by omega) (by omega), k3 2 (by omega)]; exact t1
    · rw [k1 0 (by omega) (by omega) (by omega), k3 0 (by omega)]; exact t4
    · rw [k1 35 (by omega) (by omega) (by omega), k2 61 (by omega) (by omega) (by omega) (by omega)]; exact t5 f hf
  · have b62 : C2 62 = hi 62 := h1 62 (by omega) (by omega) (by omega)
    have b63 : C2 63 = hi 63 := h1 63 (by omega) (by omega) (by omega)
    refine sm_st_upd (j := j) h.2.2.2.1 (Or.inr ⟨n, hn, ?_, s2, fun k hk => ?_⟩) fun r hr hne => ⟨?_, ?_, fun k hk => ⟨?_, ?_⟩⟩
    · rw [h2 _ (by omega)]; exact s1
    · rw [h2 _ (by omega)]; exact s4 k hk
    · rw [k1 _ (by omega) (by omega) (by omega)]
    · rw [s3 r hne, b62]
    · rw [k1 _ (by omega) (by omega) (by omega)]
    · rw [s5 _ (by omega), b63]
  · exact sm_st_fr h.2.2.2.2.1 (fun r hr => ⟨by rw [k1 _ (by omega) (by omega) (by omega)], k1 _ (by omega) (by omega) (by omega)⟩) (k2 _ (by omega) (by omega) (by omega) (by omega)) (k2 _ (by omega) (by omega) (by omega) (by omega))
end Z53
section Z53b
variable {N : Nat} {x z : Int32}
theorem p_least : zq_pair N 71 176 [.ref 0, .int x, .int z, .retAddr 0] [.ref 60, .int x, .int z] := by
  intro hi hl ca cb cs W P D h
  have hca := h.court
  have hs := zq_Ss_rows (N := N) (ca := ca) (cb := cb) (cs := cs)
  have hc := zq_Ct_ok (N := N) (ca := ca) (cb := cb) (cs := cs) h.court
  have hct := h.2.2.2.2.2.1
  obtain ⟨⟨w1, w2, w3, w4, w5, w6, -⟩, -, wa⟩ := id hct
  by_cases hx : ¬ x < 0 ∧ ¬ 6 < x
  · have hin : zm_in x 0 6 = true := by unfold zm_in; rw [decide_eq_true_eq]; exact hx
    rcases zb_ix z 6 (by omega) with hz | ⟨j, hj, rfl⟩
    · refine ⟨.int (-1), hi, hl, ca, cb, cs, hi, hl, W, P, D, fun Q => ?_, fun Q => ?_, h⟩
      · simp only [zr71_0, zr71_1, zr71_4, zr71_5, zr71_8, zr71_8n, zr71_9, zr71_10, zr71_13, zr71_14, zr71_16, zr71_19, zr71_19n, zr71_20, zr71_20n, zr71_23, zr71_24, zr71_25, zr71_26, zr71_29, zr71_32, zr71_35, zr71_37, zr71_38, zr71_39, zr71_42, zr71_43, zr71_46, zr71_47, zr71_50, zr71_51, zr71_54, zr71_55, zr71_58, zr71_59, zr71_62, zr71_63, zr71_66, zr71_69, zr71_71, zr71_74, zr71_76, zr71_77, zr71_77n, zr71_78, zr71_79, zr71_82, zr71_85, zr71_86, zr71_89, zr71_90, zr71_93, zr71_96, zs_x0 N, zh_x0 ca cb cs, zq_kill_int, zq_kill_ref, zq_kill_ret, zq_kill_null, zq_kill_long, zq_rf_some, zq_rf_none, true_and, and_true, true_implies, not_true_eq_false, not_false_eq_true, false_implies, Bool.true_eq_false, Bool.false_eq_true, nI_1, zb_i0, zb_i1, zb_i2, Option.toList_some, Option.toList_none, List.cons_append, List.nil_append, true_or, or_true, implies_true, zb_it, zb_if, zb_10, zb_00, zb_n5, zb_n2, zb_m1, zb_m3, zb_m9, or_true, true_or, or_false, false_or, k_EF_stripAt_bad hs hz, hx]
      · simp only [zr176_0, zr176_1, zr176_2, zr176_4, zr176_7, zr176_10, zr176_11, zr176_14, zr176_17, zr176_18, zr176_19, zr176_20, zr176_23, zr176_26, zr176_28, zr176_29, zr176_30, zr176_31, zr176_34, zr176_37, zr176_38, zr176_41, zr176_44, zr176_46, zr176_47, zr176_48, zr176_49, zr176_52, zr176_53, zr176_54, zr176_57, zr176_58, zr176_61, zr111_0, zr111_1, zr111_2, zr111_3, zr111_6, zs_m0 N, zs_m1 N, zs_m2 N, zh_m0 ca cb cs, zq_kill_int, zq_kill_ref, zq_kill_ret, zq_kill_null, zq_kill_long, zq_rf_some, zq_rf_none, true_and, and_true, true_implies, not_true_eq_false, not_false_eq_true, false_implies, Bool.true_eq_false, Bool.false_eq_true, nI_1, zb_i0, zb_i1, zb_i2, Option.toList_some, Option.toList_none, List.cons_append, List.nil_append, true_or, or_true, implies_true, zb_it, zb_if, zb_10, zb_00, zb_n5, zb_n2, zb_m1, zb_m3, zb_m9, or_true, true_or, or_false, false_or, k_M_in, hin, zm_in_bad (M1 := 5) hz (by decide) (by omega)]
    · have hin2 := zm_in_ok (M1 := 5) hj (by decide) (by omega)
      have sa := fun (d : Nat) (hi : zq_I) Q => k_EF_stripAt (d := d) (hi := hi) (hl := hl) (Q := Q) hs (show 6 ≤ 6 by omega) hj
      by_cases hW0 : W = 0
      · have e0 : (nI W = 0) = True := eq_true (by rw [hW0]; rfl)
        refine ⟨.int (-4), hi, hl, ca, cb, cs, hi, hl, W, P, D, fun Q => ?_, fun Q => ?_, h⟩
        · simp only [zr71_0, zr71_1, zr71_4, zr71_5, zr71_8, zr71_8n, zr71_9, zr71_10, zr71_13, zr71_14, zr71_16, zr71_19, zr71_19n, zr71_20, zr71_20n, zr71_23, zr71_24, zr71_25, zr71_26, zr71_29, zr71_32, zr71_35, zr71_37, zr71_38, zr71_39, zr71_42, zr71_43, zr71_46, zr71_47, zr71_50, zr71_51, zr71_54, zr71_55, zr71_58, zr71_59, zr71_62, zr71_63, zr71_66, zr71_69, zr71_71, zr71_74, zr71_76, zr71_77, zr71_77n, zr71_78, zr71_79, zr71_82, zr71_85, zr71_86, zr71_89, zr71_90, zr71_93, zr71_96, zs_x0 N, zh_x0 ca cb cs, hc.1, zq_kill_int, zq_kill_ref, zq_kill_ret, zq_kill_null, zq_kill_long, zq_rf_some, zq_rf_none, true_and, and_true, true_implies, not_true_eq_false, not_false_eq_true, false_implies, Bool.true_eq_false, Bool.false_eq_true, nI_1, zb_i0, zb_i1, zb_i2, Option.toList_some, Option.toList_none, List.cons_append, List.nil_append, true_or, or_true, implies_true, zb_it, zb_if, zb_10, zb_00, zb_n5, zb_n2, zb_m1, zb_m3, zb_m9, or_true, true_or, or_false, false_or, sa, hx, w3, e0]
        · simp only [zr176_0, zr176_1, zr176_2, zr176_4, zr176_7, zr176_10, zr176_11, zr176_14, zr176_17, zr176_18, zr176_19, zr176_20, zr176_23, zr176_26, zr176_28, zr176_29, zr176_30, zr176_31, zr176_34, zr176_37, zr176_38, zr176_41, zr176_44, zr176_46, zr176_47, zr176_48, zr176_49, zr176_52, zr176_53, zr176_54, zr176_57, zr176_58, zr176_61, zr111_0, zr111_1, zr111_2, zr111_3, zr111_6, zs_m0 N, zs_m1 N, zs_m2 N, zh_m0 ca cb cs, zq_kill_int, zq_kill_ref, zq_kill_ret, zq_kill_null, zq_kill_long, zq_rf_some, zq_rf_none, true_and, and_true, true_implies, not_true_eq_false, not_false_eq_true, false_implies, Bool.true_eq_false, Bool.false_eq_true, nI_1, zb_i0, zb_i1, zb_i2, Option.toList_some, Option.toList_none, List.cons_append, List.nil_append, true_or, or_true, implies_true, zb_it, zb_if, zb_10, zb_00, zb_n5, zb_n2, zb_m1, zb_m3, zb_m9, or_true, true_or, or_false, false_or, k_M_in, hin, hin2, w4, e0]
      · have e0 : (nI W = 0) = False := eq_false (nI_ne0 (by omega) (by omega))
        obtain ⟨n, hn, rfl⟩ := nI_06 hx
        have d0 := h.2.2.2.2.2.2.1.1
        obtain ⟨C0, b1, b2, b3, b4, b5, b6, b7⟩ := k_Search_begin (N := N) (d := 56) (cb := cb) (cs := cs) (hl := hl) (n := n) hca w3 w1 hn
        have hcor := cor_start0 h b2 b3 b4
        have hM := Mok_cor hcor
        generalize ht : (fun w => (zm_tr C0 w).toNatClampNeg) = t at hM
        obtain ⟨ch, hch0, hch1, hch⟩ := chp_nat (f := hi (ca + 6)) (t := t) W fun w hw => by
          have e := (hcor.facts hca).2.2 w hw
          rw [b2 _ (by omega)] at e
          rw [e.1]
          exact hM.2.2 w hw
        obtain ⟨C2, q1, -, q3, q4⟩ := k_Search_seekLeast (N := N) (ca := ca) (cb := cb) (hl := hl) (c := ca) hca hn hch0 hch n 0 (by omega) 52 (by omega) D C0 C0 0 (fun _ => 0) none hcor hM (by omega) b5 (by rw [b7]; exact hch1) (by rw [b3.2.2.1]; rfl) (by omega) (fun j hj => absurd hj (Nat.not_lt_zero _)) b6
        rw [show 52 + 5 = 57 from rfl] at q4
        have q4' : ∀ Q, zq_P 57 72 0 [.ref 54, .int 0, .retAddr 0, .retAddr 0, .retAddr 0, .retAddr 0, .retAddr 0] [] (zq_SG N, C0, hl, zq_HR ca cb ca) Q = _ := q4
        have hex := ex_2 (ok := okm W P 7) (W := W) (t := t) n 0 C0 0 (fun _ => 0) (0, none, 0, fun _ => 0)
        dsimp only at hex
        have hle := Nat.le_trans (cnp_le (ok := okm W P 7) (W := W) n C0) (zw_le6 W w1 n hn)
        have f2 : ∀ a, a < 54 ∨ 59 < a → C2 a = hi a := fun a ha => by rw [q1.1 a (by omega) (by omega) (by omega), b2 a (by omega)]
        by_cases hcn : cnp (okm W P 7) W n C0 = 0
        · have hnone : bx (okm W P 7) W t n 0 C0 0 (fun _ => 0) none = none := (bx_none n 0 C0 0 (fun _ => 0) none).mpr ⟨rfl, hcn⟩
          rw [hnone] at q3
          have q3' : C2 54 6 = -9 := q3
          have up : ∀ a, 60 ≤ a → C2 a = C0 a := fun a ha => q1.1 a (by omega) (by omega) (by omega)
          obtain ⟨H', s1, r1, sp⟩ := k_M_setPlans (N := N) (ca := ca) (cb := cb) (cs := ca) (d := 52) (hl := hl) (may := 7) hn (Mok_lo up hM)
          have r2 := r1.1
          rw [ex_1] at r2
          dsimp only at r2
          rw [Nat.zero_add, cnp_lo up, hcn] at r2
          rw [show 52 + 5 = 57 from rfl] at sp
          have r3 : H' 60 39 = 0 := r2
          have c10 : C2 60 10 = nI W := by rw [f2 _ (by omega)]; exact w4
          refine ⟨.int (-9), C2, hl, ca, cb, ca, H', hl, W, P, D, fun Q => ?_, fun Q => ?_, ?_⟩
          · simp only [zr71_0, zr71_1, zr71_4, zr71_5, zr71_8, zr71_8n, zr71_9, zr71_10, zr71_13, zr71_14, zr71_16, zr71_19, zr71_19n, zr71_20, zr71_20n, zr71_23, zr71_24, zr71_25, zr71_26, zr71_29, zr71_32, zr71_35, zr71_37, zr71_38, zr71_39, zr71_42, zr71_43, zr71_46, zr71_47, zr71_50, zr71_51, zr71_54, zr71_55, zr71_58, zr71_59, zr71_62, zr71_63, zr71_66, zr71_69, zr71_71, zr71_74, zr71_76, zr71_77, zr71_77n, zr71_78, zr71_79, zr71_82, zr71_85, zr71_86, zr71_89, zr71_90, zr71_93, zr71_96, zs_x0 N, zs_q0 N, zh_x0 ca cb cs, zh_x0 ca cb ca, hc.1, zq_kill_int, zq_kill_ref, zq_kill_ret, zq_kill_null, zq_kill_long, zq_rf_some, zq_rf_none, true_and, and_true, true_implies, not_true_eq_false, not_false_eq_true, false_implies, Bool.true_eq_false, Bool.false_eq_true, nI_1, zb_i0, zb_i1, zb_i2, Option.toList_some, Option.toList_none, List.cons_append, List.nil_append, true_or, or_true, implies_true, zb_it, zb_if, zb_10, zb_00, zb_n5, zb_n2, zb_m1, zb_m3, zb_m9, or_true, true_or, or_false, false_or, sa, hx, w3, e0, b1, q4', q3']
          · simp only [zr176_0, zr176_1, zr176_2, zr176_4, zr176_7, zr176_10, zr176_11, zr176_14, zr176_17, zr176_18, zr176_19, zr176_20, zr176_23, zr176_26, zr176_28, zr176_29, zr176_30, zr176_31, zr176_34, zr176_37, zr176_38, zr176_41, zr176_44, zr176_46, zr176_47, zr176_48, zr176_49, zr176_52, zr176_53, zr176_54, zr176_57, zr176_58, zr176_61, zr111_0, zr111_1, zr111_2, zr111_3, zr111_6, zr170_0, zr170_2, zs_m0 N, zs_m1 N, zs_m2 N, zh_m0 ca cb ca, zq_kill_int, zq_kill_ref, zq_kill_ret, zq_kill_null, zq_kill_long, zq_rf_some, zq_rf_none, true_and, and_true, true_implies, not_true_eq_false, not_false_eq_true, false_implies, Bool.true_eq_false, Bool.false_eq_true, nI_1, zb_i0, zb_i1, zb_i2, Option.toList_some, Option.toList_none, List.cons_append, List.nil_append, true_or, or_true, implies_true, zb_it, zb_if, zb_10, zb_00, zb_n5, zb_n2, zb_m1, zb_m3, zb_m9, or_true, true_or, or_false, false_or, k_M_in, hin, hin2, c10, e0, sp, r3]
          · refine h.search (C2 := C2) (fun a ha _ => f2 a ha) (by rw [f2 0 (by omega)]) ?_ (fun a ha => s1.1 a (by omega) (by omega)) (fun a a1 a2 => s1.1 a (by omega) (by omega)) (fun f _ f1 => s1.2 f (by omega)) h.2.2.1.2.1 h.2.2.1.2.2.1
            rw [s1.2 2 (by omega), f2 0 (by omega), f2 60 (by omega)]
            exact h.2.2.1.1
        · have hsome : bx (okm W P 7) W t n 0 C0 0 (fun _ => 0) none ≠ none := fun q => hcn ((bx_none n 0 C0 0 (fun _ => 0) none).mp q).2
          obtain ⟨cr, hcr⟩ := Option.ne_none_iff_exists'.mp hsome
          obtain ⟨c0, ρ⟩ := cr
          rw [hcr] at q3 hex
          obtain ⟨z1, z2, z3⟩ := q3
          generalize hC3 : zq_u (zq_w C2 (2 + 1 + 2 * j) (va_cpy (C2 59) (C2 (2 + 1 + 2 * j)) 0 0 n)) (2 + 2 * j) 1 (nI n) = C3
          have o3 : ∀ a, a ≠ 2 + 2 * j → a ≠ 2 + 1 + 2 * j → C3 a = C2 a := fun a a1 a2 => by rw [← hC3, zq_u_ne a1, zq_w_ne a2]
          have up : ∀ a, 60 ≤ a → C3 a = C0 a := fun a ha => by rw [o3 a (by omega) (by omega), q1.1 a (by omega) (by omega) (by omega)]
          obtain ⟨H', s1, r1, sp⟩ := k_M_setPlans (N := N) (ca := ca) (cb := cb) (cs := ca) (d := 52) (hl := hl) (may := 7) hn (Mok_lo up hM)
          rw [ex_lo up] at r1
          obtain ⟨r2, r3, -⟩ := r1
          rw [hex] at r3
          obtain ⟨y1, y2, y3⟩ := r3
          rw [ex_1] at r2
          dsimp only at r2
          rw [Nat.zero_add] at r2
          have r4 : (H' 60 39 = 0) = False := by rw [r2]; exact eq_false (nI_ne0 (by omega) (by omega))
          rw [show 52 + 5 = 57 from rfl] at sp
          have c10 : C3 60 10 = nI W := by rw [o3 _ (by omega) (by omega), f2 _ (by omega)]; exact w4
          have hs2 := zq_Ss_rows (N := N) (ca := ca) (cb := cb) (cs := ca)
          have g1 : zq_aW (zq_SG N) 59 := by simp only [zs_q0 N]
          have g2 : zq_lS (zq_SG N) 59 := by simp only [zs_q0 N]
          have g3 : zq_ln (zq_SG N) 59 = 6 := by simp only [zs_q0 N]
          have tk := fun Q => k_Strip_takeFrom (N := N) (ca := ca) (cb := cb) (cs := ca) (d := 57) (hi := C2) (hl := hl) (Q := Q) (b := 0) (n := n) (hs2.2 j hj).2 g1 g2 g3 (by omega) (by omega) (by omega) (by omega)
          rw [hC3] at tk
          have n9 := nI_n9 (a := c0) (by omega)
          have z2' : C3 54 6 = nI c0 := by rw [o3 54 (by omega) (by omega)]; exact z2
          have l1 : zq_aS (zq_SG N) 82 ∧ zq_ln (zq_SG N) 82 = 7 := by simp only [zs_m0 N, zs_m1 N, zs_m2 N, and_self]
          have ll := fun Q => k_M_layLine (N := N) (ca := ca) (cb := cb) (cs := ca) (d := 56) (H := H') (hl := hl) (Q := Q) (j := j) (n := n) l1 (by omega) (by omega) hj hn
          have y2' : zq_w (zq_u H' 62 j (nI n)) 63 (laf (H' 63) (H' 82) j n 40) 60 40 = nI c0 := by rw [zq_w_ne (by omega), zq_u_ne (by omega)]; exact y2
          refine ⟨.int (nI c0), C3, hl, ca, cb, ca, zq_w (zq_u H' 62 j (nI n)) 63 (laf (H' 63) (H' 82) j n 40), hl, W, P, D, fun Q => ?_, fun Q => ?_, ?_⟩
          · simp only [zr71_0, zr71_1, zr71_4, zr71_5, zr71_8, zr71_8n, zr71_9, zr71_10, zr71_13, zr71_14, zr71_16, zr71_19, zr71_19n, zr71_20, zr71_20n, zr71_23, zr71_24, zr71_25, zr71_26, zr71_29, zr71_32, zr71_35, zr71_37, zr71_38, zr71_39, zr71_42, zr71_43, zr71_46, zr71_47, zr71_50, zr71_51, zr71_54, zr71_55, zr71_58, zr71_59, zr71_62, zr71_63, zr71_66, zr71_69, zr71_71, zr71_74, zr71_76, zr71_77, zr71_77n, zr71_78, zr71_79, zr71_82, zr71_85, zr71_86, zr71_89, zr71_90, zr71_93, zr71_96, zs_x0 N, zs_q0 N, zh_x0 ca cb cs, zh_x0 ca cb ca, zh_q0 ca cb ca, hc.1, zq_kill_int, zq_kill_ref, zq_kill_ret, zq_kill_null, zq_kill_long, zq_rf_some, zq_rf_none, true_and, and_true, true_implies, not_true_eq_false, not_false_eq_true, false_implies, Bool.true_eq_false, Bool.false_eq_true, nI_1, zb_i0, zb_i1, zb_i2, Option.toList_some, Option.toList_none, List.cons_append, List.nil_append, true_or, or_true, implies_true, zb_it, zb_if, zb_10, zb_00, zb_n5, zb_n2, zb_m1, zb_m3, zb_m9, or_true, true_or, or_false, false_or, sa, hx, w3, e0, b1, q4', z2, n9, (hs2.2 j hj).2.1, tk, z2']
          · simp only [zr176_0, zr176_1, zr176_2, zr176_4, zr176_7, zr176_10, zr176_11, zr176_14, zr176_17, zr176_18, zr176_19, zr176_20, zr176_23, zr176_26, zr176_28, zr176_29, zr176_30, zr176_31, zr176_34, zr176_37, zr176_38, zr176_41, zr176_44, zr176_46, zr176_47, zr176_48, zr176_49, zr176_52, zr176_53, zr176_54, zr176_57, zr176_58, zr176_61, zr111_0, zr111_1, zr111_2, zr111_3, zr111_6, zr170_0, zr170_2, zs_m0 N, zs_m1 N, zs_m2 N, zh_m0 ca cb ca, zq_kill_int, zq_kill_ref, zq_kill_ret, zq_kill_null, zq_kill_long, zq_rf_some, zq_rf_none, true_and, and_true, true_implies, not_true_eq_false, not_false_eq_true, false_implies, Bool.true_eq_false, Bool.false_eq_true, nI_1, zb_i0, zb_i1, zb_i2, Option.toList_some, Option.toList_none, List.cons_append, List.nil_append, true_or, or_true, implies_true, zb_it, zb_if, zb_10, zb_00, zb_n5, zb_n2, zb_m1, zb_m3, zb_m9, or_true, true_or, or_false, false_or, k_M_in, hin, hin2, c10, e0, sp, r4, ll, y2']
          · have hH : ∀ a, a ≠ 60 → a < 80 → H' a = C3 a := fun a a1 a2 => s1.1 a a1 (by omega)
            refine h.searchR (j := j) (n := n) (C2 := C3) hj (by omega) (fun a ha a1 a2 => by rw [o3 a a1 a2, f2 a ha]) (fun a ha => ?_) (fun a a1 a2 a3 a4 => ?_) (fun f hf => ?_) ?_ ?_ (fun r hr => ?_) (fun k hk => ?_) (fun i hi' => ?_)
            · rw [zq_w_ne (by omega), zq_u_ne (by omega), hH a (by omega) (by omega)]
            · rw [zq_w_ne a4, zq_u_ne a3, hH a (by omega) (by omega)]
            · rw [zq_w_ne (by omega), zq_u_ne (by omega)]; exact s1.2 f (by omega)
            · rw [← hC3, zq_u_eq]
            · rw [zq_w_ne (by omega), zq_u_eq]
            · rw [zq_w_ne (by omega), zq_u_kn hr, hH 62 (by omega) (by omega)]
            · rw [zq_w_eq, ← hC3, zq_u_ne (by omega), zq_w_eq, pk_cpy_in (by omega) (by omega), show 0 + (k - 0) = k by omega, z3 k hk]
              unfold laf
              rw [if_pos (by omega), show 40 * j + k - 40 * j = k by omega, if_pos hk, y3 k hk]
            · rw [zq_w_eq]
              unfold laf
              rw [if_neg (by omega), hH 63 (by omega) (by omega)]
  · refine ⟨.int (-1), hi, hl, ca, cb, cs, hi, hl, W, P, D, fun Q => ?_, fun Q => ?_, h⟩
    · rcases zb_ix z 6 (by omega) with hz | ⟨j, hj, rfl⟩
      · simp only [zr71_0, zr71_1, zr71_4, zr71_5, zr71_8, zr71_8n, zr71_9, zr71_10, zr71_13, zr71_14, zr71_16, zr71_19, zr71_19n, zr71_20, zr71_20n, zr71_23, zr71_24, zr71_25, zr71_26, zr71_29, zr71_32, zr71_35, zr71_37, zr71_38, zr71_39, zr71_42, zr71_43, zr71_46, zr71_47, zr71_50, zr71_51, zr71_54, zr71_55, zr71_58, zr71_59, zr71_62, zr71_63, zr71_66, zr71_69, zr71_71, zr71_74, zr71_76, zr71_77, zr71_77n, zr71_78, zr71_79, zr71_82, zr71_85, zr71_86, zr71_89, zr71_90, zr71_93, zr71_96, zs_x0 N, zh_x0 ca cb cs, zq_kill_int, zq_kill_ref, zq_kill_ret, zq_kill_null, zq_kill_long, zq_rf_some, zq_rf_none, true_and, and_true, true_implies, not_true_eq_false, not_false_eq_true, false_implies, Bool.true_eq_false, Bool.false_eq_true, nI_1, zb_i0, zb_i1, zb_i2, Option.toList_some, Option.toList_none, List.cons_append, List.nil_append, true_or, or_true, implies_true, zb_it, zb_if, zb_10, zb_00, zb_n5, zb_n2, zb_m1, zb_m3, zb_m9, or_true, true_or, or_false, false_or, k_EF_stripAt_bad hs hz]
        by_cases q1 : x < 0
        · simp [q1]
        · by_cases q2 : 6 < x
          · simp [q1, q2]
          · exact absurd ⟨q1, q2⟩ hx
      · simp only [zr71_0, zr71_1, zr71_4, zr71_5, zr71_8, zr71_8n, zr71_9, zr71_10, zr71_13, zr71_14, zr71_16, zr71_19, zr71_19n, zr71_20, zr71_20n, zr71_23, zr71_24, zr71_25, zr71_26, zr71_29, zr71_32, zr71_35, zr71_37, zr71_38, zr71_39, zr71_42, zr71_43, zr71_46, zr71_47, zr71_50, zr71_51, zr71_54, zr71_55, zr71_58, zr71_59, zr71_62, zr71_63, zr71_66, zr71_69, zr71_71, zr71_74, zr71_76, zr71_77, zr71_77n, zr71_78, zr71_79, zr71_82, zr71_85, zr71_86, zr71_89, zr71_90, zr71_93, zr71_96, zs_x0 N, zh_x0 ca cb cs, zq_kill_int, zq_kill_ref, zq_kill_ret, zq_kill_null, zq_kill_long, zq_rf_some, zq_rf_none, true_and, and_true, true_implies, not_true_eq_false, not_false_eq_true, false_implies, Bool.true_eq_false, Bool.false_eq_true, nI_1, zb_i0, zb_i1, zb_i2, Option.toList_some, Option.toList_none, List.cons_append, List.nil_append, true_or, or_true, implies_true, zb_it, zb_if, zb_10, zb_00, zb_n5, zb_n2, zb_m1, zb_m3, zb_m9, or_true, true_or, or_false, false_or, k_EF_stripAt hs (show 6 ≤ 6 by omega) hj]
        by_cases q1 : x < 0
        · simp [q1]
        · by_cases q2 : 6 < x
          · simp [q1, q2]
          · exact absurd ⟨q1, q2⟩ hx
    · simp only [zr176_0, zr176_1, zr176_2, zr176_4, zr176_7, zr176_10, zr176_11, zr176_14, zr176_17, zr176_18, zr176_19, zr176_20, zr176_23, zr176_26, zr176_28, zr176_29, zr176_30, zr176_31, zr176_34, zr176_37, zr176_38, zr176_41, zr176_44, zr176_46, zr176_47, zr176_48, zr176_49, zr176_52, zr176_53, zr176_54, zr176_57, zr176_58, zr176_61, zs_m0 N, zs_m1 N, zs_m2 N, zh_m0 ca cb cs, zq_kill_int, zq_kill_ref, zq_kill_ret, zq_kill_null, zq_kill_long, zq_rf_some, zq_rf_none, true_and, and_true, true_implies, not_true_eq_false, not_false_eq_true, false_implies, Bool.true_eq_false, Bool.false_eq_true, nI_1, zb_i0, zb_i1, zb_i2, Option.toList_some, Option.toList_none, List.cons_append, List.nil_append, true_or, or_true, implies_true, zb_it, zb_if, zb_10, zb_00, zb_n5, zb_n2, zb_m1, zb_m3, zb_m9, or_true, true_or, or_false, false_or, k_M_in, zm_in, hx, decide_false]
end Z53b
