/-! The reference reads a court -/
def her (f : Nat → Int32) (n i : Nat) : Int32 := if i < n then f i else -9
theorem zq_us {h : zq_I} {a k : Nat} {v : Int32} (e : h a k = v) : zq_u h a k v = h := by
  funext b l
  unfold zq_u
  by_cases q : b = a ∧ l = k
  · rw [if_pos q, q.1, q.2, e]
  · rw [if_neg q]
def mrf (M H : zq_I) : Prop := (∀ a, a ≠ 60 → a ≠ 72 → a ≠ 73 → H a = M a) ∧ ∀ g, g < 18 ∨ 24 < g → H 60 g = M 60 g
theorem mrf_rfl (M : zq_I) : mrf M M := ⟨fun _ _ _ _ => rfl, fun _ _ => rfl⟩
theorem mrf_tr {A B C : zq_I} (h1 : mrf A B) (h2 : mrf B C) : mrf A C := ⟨fun a a1 a2 a3 => (h2.1 a a1 a2 a3).trans (h1.1 a a1 a2 a3), fun g hg => (h2.2 g hg).trans (h1.2 g hg)⟩
theorem mrf_60 {M : zq_I} {g : Nat} {v : Int32} (hg : 17 < g ∧ g < 25) : mrf M (zq_u M 60 g v) := ⟨fun a a1 _ _ => zq_u_ne a1, fun l hl => zq_u_kn (by omega)⟩
theorem mrf_72 {M : zq_I} {g : Nat} {v : Int32} : mrf M (zq_u M 72 g v) := ⟨fun a _ a2 _ => zq_u_ne a2, fun l _ => by rw [zq_u_ne (by omega)]⟩
theorem mrf_73 {M : zq_I} {g : Nat} {v : Int32} : mrf M (zq_u M 73 g v) := ⟨fun a _ _ a3 => zq_u_ne a3, fun l _ => by rw [zq_u_ne (by omega)]⟩
/-- the text, as the reference has it -/
def txt (H : zq_I) (f : Nat → Int32) (n j : Nat) : Prop := H 65 j = nI n ∧ ∀ i, i < n → H 66 (60 * j + i) = f i
theorem txt_fr {M H : zq_I} {f : Nat → Int32} {n j : Nat} (h : txt M f n j) (hm : mrf M H) : txt H f n j := by
  unfold txt at h ⊢
  rw [hm.1 65 (by omega) (by omega) (by omega), hm.1 66 (by omega) (by omega) (by omega)]
  exact h
section Z63
variable {N ca cb cs d n i j h lo v : Nat} {H M : zq_I} {f : Nat → Int32} {hl : zq_J} {Q : Option Value → zq_G → Prop} {x : Int32}
theorem k_M_here (hj : j < 4) (hn : n ≤ 60) (ht : txt H f n j) (h18 : H 60 18 = nI i) (hi : i ≤ n) : zq_P d 132 0 [.ref 60, .int (nI j)] [] (zq_SG N, H, hl, zq_HR ca cb cs) Q = Q (some (.int (her f n i))) (zq_SG N, H, hl, zq_HR ca cb cs) := by
  have h1 : zq_xS (nI j) 4 := zb_x (by omega) (by omega)
  have h2 : (nI j).toNatClampNeg = j := zb_cl (by omega)
  unfold her
  by_cases q : i < n
  · have q1 : (nI i < nI n) = True := eq_true ((nI_ltI (by omega) (by omega)).mpr q)
    have x3 : zq_xS (nI (60 * j + i)) 240 := zb_x (by omega) (by omega)
    have x4 : (nI (60 * j + i)).toNatClampNeg = 60 * j + i := zb_cl (by omega)
    rw [if_pos q]
    simp only [zr132_0, zr132_1, zr132_4, zr132_5, zr132_8, zr132_9, zr132_10, zr132_13, zr132_14, zr132_17, zr132_19, zr132_20, zr132_21, zr132_22, zr132_25, zr132_26, zr132_27, zr132_30, zr132_32, zs_m0 N, zs_m1 N, zs_m2 N, zh_m0 ca cb cs, zq_kill_int, zq_kill_ref, zq_kill_ret, zq_kill_null, zq_kill_long, zq_rf_some, zq_rf_none, true_and, and_true, true_implies, not_true_eq_false, not_false_eq_true, false_implies, Bool.true_eq_false, Bool.false_eq_true, nI_1, zb_i0, zb_i1, zb_i2, Option.toList_some, Option.toList_none, List.cons_append, List.nil_append, true_or, or_true, implies_true, zb_it, zb_if, zb_10, zb_00, zb_n5, zb_n2, zb_m1, zb_m3, zb_m9, or_true, true_or, or_false, false_or, h1, h2, h18, ht.1, q1, zb_m60, nI_add, x3, x4, ht.2 i q]
  · have q1 : (nI i < nI n) = False := eq_false (nI_nlt (by omega) (by omega))
    rw [if_neg q]
    simp only [zr132_0, zr132_1, zr132_4, zr132_5, zr132_8, zr132_9, zr132_10, zr132_13, zr132_14, zr132_17, zr132_19, zr132_20, zr132_21, zr132_22, zr132_25, zr132_26, zr132_27, zr132_30, zr132_32, zs_m0 N, zs_m1 N, zs_m2 N, zh_m0 ca cb cs, zq_kill_int, zq_kill_ref, zq_kill_ret, zq_kill_null, zq_kill_long, zq_rf_some, zq_rf_none, true_and, and_true, true_implies, not_true_eq_false, not_false_eq_true, false_implies, Bool.true_eq_false, Bool.false_eq_true, nI_1, zb_i0, zb_i1, zb_i2, Option.toList_some, Option.toList_none, List.cons_append, List.nil_append, true_or, or_true, implies_true, zb_it, zb_if, zb_10, zb_00, zb_n5, zb_n2, zb_m1, zb_m3, zb_m9, or_true, true_or, or_false, false_or, h1, h2, h18, ht.1, q1]
theorem her_in {y : Int32} (hy : y ≠ -9) : (her f n i = y) = (i < n ∧ f i = y) := by
  unfold her
  by_cases q : i < n
  · rw [if_pos q]; simp [q]
  · rw [if_neg q]
    refine (eq_false fun e => hy e.symm).trans (eq_false fun e => q e.1).symm
theorem k_M_skip (hj : j < 4) (hn : n ≤ 60) : ∀ m i H, n ≤ i + m → i ≤ n → txt H f n j → H 60 18 = nI i → zq_P (d + 1) 131 0 [.ref 60, .int (nI j)] [] (zq_SG N, H, hl, zq_HR ca cb cs) Q = Q none (zq_SG N, zq_u H 60 18 (nI (sk f n m i)), hl, zq_HR ca cb cs) := by
  intro m
  induction m with
  | zero =>
    intro i H h1 h2 ht h18
    have hr := fun Q => k_M_here (N := N) (ca := ca) (cb := cb) (cs := cs) (d := d) (hl := hl) (Q := Q) hj hn ht h18 h2
    have e1 : (her f n i = 32) = False := by rw [her_in (by decide)]; exact eq_false fun z => by omega
    rw [show sk f n 0 i = i from rfl, zq_us h18, zr131_0]
    simp only [zr131_1, zr131_2, zr131_5, zr131_7, zr131_10, zr131_11, zr131_12, zr131_15, zr131_16, zr131_17, zr131_20, zr131_23, zs_m0 N, zs_m1 N, zs_m2 N, zh_m0 ca cb cs, zq_kill_int, zq_kill_ref, zq_kill_ret, zq_kill_null, zq_kill_long, zq_rf_some, zq_rf_none, true_and, and_true, true_implies, not_true_eq_false, not_false_eq_true, false_implies, Bool.true_eq_false, Bool.false_eq_true, nI_1, zb_i0, zb_i1, zb_i2, Option.toList_some, Option.toList_none, List.cons_append, List.nil_append, true_or, or_true, implies_true, zb_it, zb_if, zb_10, zb_00, zb_n5, zb_n2, zb_m1, zb_m3, zb_m9, or_true, true_or, or_false, false_or, hr, e1]
  | succ m ih =>
    intro i H h1 h2 ht h18
    have hr := fun Q => k_M_here (N := N) (ca := ca) (cb := cb) (cs := cs) (d := d) (hl := hl) (Q := Q) hj hn ht h18 h2
    rw [sk_s]
    by_cases q : i < n ∧ f i = 32
    · have e1 : (her f n i = 32) = True := by rw [her_in (by decide)]; exact eq_true q
      have e2 := ih (i + 1) (zq_u H 60 18 (nI (i + 1))) (by omega) (by omega) (txt_fr ht (mrf_60 (by omega))) zq_u_eq
      rw [zq_uu] at e2
      rw [if_pos q, zr131_0]
      simp only [zr131_1, zr131_2, zr131_5, zr131_7, zr131_10, zr131_11, zr131_12, zr131_15, zr131_16, zr131_17, zr131_20, zr131_23, zs_m0 N, zs_m1 N, zs_m2 N, zh_m0 ca cb cs, zq_kill_int, zq_kill_ref, zq_kill_ret, zq_kill_null, zq_kill_long, zq_rf_some, zq_rf_none, true_and, and_true, true_implies, not_true_eq_false, not_false_eq_true, false_implies, Bool.true_eq_false, Bool.false_eq_true, nI_1, zb_i0, zb_i1, zb_i2, Option.toList_some, Option.toList_none, List.cons_append, List.nil_append, true_or, or_true, implies_true, zb_it, zb_if, zb_10, zb_00, zb_n5, zb_n2, zb_m1, zb_m3, zb_m9, or_true, true_or, or_false, false_or, hr, e1, h18, e2]
    · have e1 : (her f n i = 32) = False := by rw [her_in (by decide)]; exact eq_false q
      rw [if_neg q, zq_us h18, zr131_0]
      simp only [zr131_1, zr131_2, zr131_5, zr131_7, zr131_10, zr131_11, zr131_12, zr131_15, zr131_16, zr131_17, zr131_20, zr131_23, zs_m0 N, zs_m1 N, zs_m2 N, zh_m0 ca cb cs, zq_kill_int, zq_kill_ref, zq_kill_ret, zq_kill_null, zq_kill_long, zq_rf_some, zq_rf_none, true_and, and_true, true_implies, not_true_eq_false, not_false_eq_true, false_implies, Bool.true_eq_false, Bool.false_eq_true, nI_1, zb_i0, zb_i1, zb_i2, Option.toList_some, Option.toList_none, List.cons_append, List.nil_append, true_or, or_true, implies_true, zb_it, zb_if, zb_10, zb_00, zb_n5, zb_n2, zb_m1, zb_m3, zb_m9, or_true, true_or, or_false, false_or, hr, e1]
/-- a figure is read -/
def fgh (H : zq_I) (v i : Nat) : zq_I := zq_u (zq_u H 60 24 (nI v)) 60 18 (nI (i + 1))
theorem fgh_mrf : mrf H (fgh H v i) := mrf_tr (mrf_60 (by omega)) (mrf_60 (by omega))
theorem fgh_18 : fgh H v i 60 18 = nI (i + 1) := zq_u_eq
theorem fgh_24 : fgh H v i 60 24 = nI v := by unfold fgh; rw [zq_u_kn (by omega), zq_u_eq]
theorem fgh_o {g : Nat} (h1 : g ≠ 18) (h2 : g ≠ 24) : fgh H v i 60 g = H 60 g := by unfold fgh; rw [zq_u_kn h1, zq_u_kn h2]
theorem fgh_a {a : Nat} (h1 : a ≠ 60) : fgh H v i a = H a := by unfold fgh; rw [zq_u_ne h1, zq_u_ne h1]
theorem k_M_figure_ok (hj : j < 4) (hn : n ≤ 60) (ht : txt H f n j) (h18 : H 60 18 = nI i) (hi : i ≤ n) (hh : h ≤ 9) (hv : fgv f n i h = some v) (hlo : lo ≤ v) : zq_P (d + 1) 133 0 [.ref 60, .int (nI j), .int (nI lo), .int (nI h), .retAddr 0] [] (zq_SG N, H, hl, zq_HR ca cb cs) Q = Q (some (.int 1)) (zq_SG N, fgh H v i, hl, zq_HR ca cb cs) := by
  obtain ⟨a1, a2, a3⟩ := fgv_some hh hv
  have hr := fun Q => k_M_here (N := N) (ca := ca) (cb := cb) (cs := cs) (d := d) (hl := hl) (Q := Q) hj hn ht h18 hi
  have e1 : her f n i - 48 = nI v := by unfold her; rw [if_pos a1]; exact a3
  have e2 : zm_in (nI v) (nI lo) (nI h) = true := by
    unfold zm_in
    rw [decide_eq_true_eq]
    exact ⟨nI_nlt hlo (by omega), nI_nlt a2 (by omega)⟩
  have e3 : ∀ y, zq_u H 60 24 y 60 18 = nI i := fun y => by rw [zq_u_kn (by omega)]; exact h18
  simp only [zr133_0, zr133_1, zr133_2, zr133_5, zr133_7, zr133_8, zr133_10, zr133_12, zr133_13, zr133_14, zr133_17, zr133_20, zr133_21, zr133_22, zr133_23, zr133_25, zr133_28, zr133_29, zr133_30, zr133_33, zr133_34, zr133_35, zr133_38, zr133_39, zs_m0 N, zs_m1 N, zs_m2 N, zh_m0 ca cb cs, zq_kill_int, zq_kill_ref, zq_kill_ret, zq_kill_null, zq_kill_long, zq_rf_some, zq_rf_none, true_and, and_true, true_implies, not_true_eq_false, not_false_eq_true, false_implies, Bool.true_eq_false, Bool.false_eq_true, nI_1, zb_i0, zb_i1, zb_i2, Option.toList_some, Option.toList_none, List.cons_append, List.nil_append, true_or, or_true, implies_true, zb_it, zb_if, zb_10, zb_00, zb_n5, zb_n2, zb_m1, zb_m3, zb_m9, or_true, true_or, or_false, false_or, hr, e1, k_M_in, e2, e3, fgh]
theorem k_M_figure_no (hj : j < 4) (hn : n ≤ 60) (ht : txt H f n j) (h18 : H 60 18 = nI i) (hi : i ≤ n) (hh : h ≤ 9) (hl2 : lo ≤ 2) (hv : fgv f n i h = none ∨ ∃ v, fgv f n i h = some v ∧ v < lo) : zq_P (d + 1) 133 0 [.ref 60, .int (nI j), .int (nI lo), .int (nI h), .retAddr 0] [] (zq_SG N, H, hl, zq_HR ca cb cs) Q = Q (some (.int 0)) (zq_SG N, H, hl, zq_HR ca cb cs) := by
  have hr := fun Q => k_M_here (N := N) (ca := ca) (cb := cb) (cs := cs) (d := d) (hl := hl) (Q := Q) hj hn ht h18 hi
  have e2 : zm_in (her f n i - 48) (nI lo) (nI h) = false := by
    unfold zm_in
    rw [decide_eq_false_iff_not]
    rintro ⟨z1, z2⟩
    rcases hv with hv | ⟨v, hv, hlt⟩
    · unfold fgv at hv
      unfold her at z1 z2
      by_cases q : i < n
      · rw [if_pos q] at z1 z2
        split at hv
        · cases hv
        · rename_i hx
          refine hx ⟨q, fun y => z1 ?_, z2⟩
          exact Int32.lt_of_lt_of_le y (show (0 : Int32) ≤ nI lo from nI_pos' (by omega))
      · rw [if_neg q] at z1
        refine z1 ?_
        exact Int32.lt_of_lt_of_le (show (-9 : Int32) - 48 < 0 by decide) (show (0 : Int32) ≤ nI lo from nI_pos' (by omega))
    · obtain ⟨a1, a2, a3⟩ := fgv_some hh hv
      unfold her at z1
      rw [if_pos a1, a3] at z1
      exact z1 ((nI_ltI (by omega) (by omega)).mpr hlt)
  simp only [zr133_0, zr133_1, zr133_2, zr133_5, zr133_7, zr133_8, zr133_10, zr133_12, zr133_13, zr133_14, zr133_17, zr133_20, zr133_21, zr133_22, zr133_23, zr133_25, zr133_28, zr133_29, zr133_30, zr133_33, zr133_34, zr133_35, zr133_38, zr133_39, zs_m0 N, zs_m1 N, zs_m2 N, zh_m0 ca cb cs, zq_kill_int, zq_kill_ref, zq_kill_ret, zq_kill_null, zq_kill_long, zq_rf_some, zq_rf_none, true_and, and_true, true_implies, not_true_eq_false, not_false_eq_true, false_implies, Bool.true_eq_false, Bool.false_eq_true, nI_1, zb_i0, zb_i1, zb_i2, Option.toList_some, Option.toList_none, List.cons_append, List.nil_append, true_or, or_true, implies_true, zb_it, zb_if, zb_10, zb_00, zb_n5, zb_n2, zb_m1, zb_m3, zb_m9, or_true, true_or, or_false, false_or, hr, k_M_in, e2]
theorem k_M_kindBy {gg : zq_G} : zq_P d 136 0 [.int x] [] gg Q = Q (some (.int (mmi (kb x)))) gg := by
  obtain ⟨S, hi, hl, hr⟩ := gg
  unfold kb
  simp only [zr136_0, zr136_1, zr136_3, zr136_6, zr136_7, zr136_10, zr136_11, zr136_13, zr136_16, zr136_17, zr136_20, zr136_21, zr136_23, zr136_26, zr136_27, zr136_30, zr136_31, zr136_33, zr136_36, zr136_37, zr136_40, zr136_41, zr136_43, zr136_46, zr136_47, zr136_50, zr136_51, zr136_53, zr136_56, zr136_57, zr136_60, zr136_62, zq_kill_int, zq_kill_ref, zq_kill_ret, zq_kill_null, zq_kill_long, zq_rf_some, zq_rf_none, true_and, and_true, true_implies, not_true_eq_false, not_false_eq_true, false_implies, Bool.true_eq_false, Bool.false_eq_true, nI_1, zb_i0, zb_i1, zb_i2, Option.toList_some, Option.toList_none, List.cons_append, List.nil_append, true_or, or_true, implies_true]
  by_cases q1 : x = 119
  · simp [q1, mmi]; rfl
  · by_cases q2 : x = 114
    · simp [q2, mmi]; rfl
    · by_cases q3 : x = 109
      · simp [q3, mmi]; rfl
      · by_cases q4 : x = 103
        · simp [q4, mmi]; rfl
        · by_cases q5 : x = 112
          · simp [q5, mmi]; rfl
          · by_cases q6 : x = 108
            · simp [q6, mmi]; rfl
            · simp [q1, q2, q3, q4, q5, q6, mmi]
end Z63
