/-! rounds -/
theorem zq_findv {α : Type} {f : Nat → α → Prop} {p : Nat → Bool} {n : Nat} {A B : Prop} (hs : ∀ k, k < n → ∀ v, p k = false → ∃ v2, f k v = f (k + 1) v2) (hh : ∀ k, k < n → ∀ v, p k = true → f k v = A) (hn : ∀ v, f n v = B) : ∀ v, f 0 v = if zb_any p n = true then A else B := by
  intro v
  by_cases h : zb_any p n = true
  · rw [if_pos h]
    obtain ⟨k, ⟨hk1, hk2⟩, hk3⟩ := pk_least _ (zb_any_iff.mp h)
    refine zq_loopv (n := k) (f := f) (fun v => hh k hk1 v hk2) (fun j hj v => hs j (by omega) v ?_) v
    cases e : p j with
    | false => rfl
    | true => exact absurd ⟨by omega, e⟩ (hk3 j hj)
  · rw [if_neg h]
    refine zq_loopv (n := n) (f := f) hn (fun j hj v => hs j hj v ?_) v
    cases e : p j with
    | false => rfl
    | true => exact absurd (zb_any_iff.mpr ⟨j, hj, e⟩) h
theorem zq_loopE {α β : Type} {f : β → Nat → α → Prop} {I : Nat → α → Prop} : ∀ {n : Nat}, (∀ k, k < n → ∀ v, I k v → ∃ v2, I (k + 1) v2 ∧ ∀ q, f q k v = f q (k + 1) v2) → ∀ v, I 0 v → ∃ v2, I n v2 ∧ ∀ q, f q 0 v = f q n v2 := by
  intro n
  induction n with
  | zero => intro _ v h; exact ⟨v, h, fun _ => rfl⟩
  | succ n ih =>
    intro hs v h
    obtain ⟨v1, h1, e1⟩ := ih (fun k hk => hs k (by omega)) v h
    obtain ⟨v2, h2, e2⟩ := hs n (by omega) v1 h1
    exact ⟨v2, h2, fun q => (e1 q).trans (e2 q)⟩
/-- a round holds at a place -/
def okr (hi : zq_I) (pth : Nat → Nat) (n i : Nat) : Bool := !(decide (hi 69 (pth i) = 5)) && !(zm_riot (hi 69 (pth i)) && zm_riot (hi 69 (pth ((i + 1) % n)))) && !zb_any (fun d => decide (pth ((i + (d + 1)) % n) = pth i)) (zm_rest hi (pth i)).toNatClampNeg
def gro (hi : zq_I) (pth : Nat → Nat) (n : Nat) : Bool := !zb_any (fun i => !okr hi pth n i) n
section Z47
variable {N ca cb cs d W P D n : Nat} {hi C M : zq_I} {hl : zq_J} {Q : Option Value → zq_G → Prop} {pth : Nat → Nat}
theorem sm_rest6 (h : sm_ct hi ca W P) (w : Nat) : (zm_rest hi w).toNatClampNeg ≤ 6 ∧ zm_rest hi w = nI (zm_rest hi w).toNatClampNeg := by
  obtain ⟨-, -, -, -, -, -, -, R, hR, e⟩ := h.1
  have : ∃ r, r ≤ 6 ∧ zm_rest hi w = nI r := by
    unfold zm_rest
    rw [e]
    split
    · exact ⟨R / 2, by omega, pk_div (d := 2) (by omega) (by omega) (by omega)⟩
    · exact ⟨R, hR, rfl⟩
  obtain ⟨r, hr, e2⟩ := this
  rw [e2, zb_cl (by omega)]
  exact ⟨hr, rfl⟩
theorem k_Search_goesRoundFrom {i : Nat} (hca : ca = 36 ∨ ca = 45) (hn0 : 0 < n) (hn : n ≤ 5) (hi' : i < n) (hW : W ≤ 7) (hp : ∀ i, i < n → pth i < W ∧ C 58 (i) = nI (pth i)) (h54 : C 54 4 = nI n) (hk : ∀ w, w < W → C (ca + 3) w = hi 69 w ∧ (zm_rest hi w).toNatClampNeg ≤ 6 ∧ C (ca + 8) w = nI (zm_rest hi w).toNatClampNeg) : zq_P (d + 2) 86 0 [.ref 54, .int (nI i), .retAddr 0, .retAddr 0] [] (zq_SG N, C, hl, zq_HR ca cb ca) Q = Q (some (.int (zb_i (okr hi pth n i)))) (zq_SG N, C, hl, zq_HR ca cb ca) := by
  have hc := zq_Ct_ok (N := N) (ca := ca) (cb := cb) (cs := ca) hca
  have hc2 := hc
  unfold zq_Ct at hc2
  obtain ⟨p1, p2⟩ := hp i hi'
  have en : (nI n = 0) = False := eq_false (nI_ne0 (by omega) (by omega))
  have x1 : zq_xS (nI i) 6 := zb_x (by omega) (by omega)
  have x2 : (nI i).toNatClampNeg = i := zb_cl (by omega)
  have y1 : zq_xS (nI (pth i)) 7 := zb_x (by omega) (by omega)
  have y2 : (nI (pth i)).toNatClampNeg = pth i := zb_cl (by omega)
  have lt1 : (i + 1) % n < n := Nat.mod_lt _ hn0
  obtain ⟨p3, p4⟩ := hp _ lt1
  have r1 : nI i + 1 - (nI i + 1) / nI n * nI n = nI ((i + 1) % n) := by rw [nI_1, pk_rem (by omega) hn0 (by omega)]
  have r2 : nI (i + 1) - nI (i + 1) / nI n * nI n = nI ((i + 1) % n) := pk_rem (by omega) hn0 (by omega)
  have x3 : zq_xS (nI ((i + 1) % n)) 6 := zb_x (by omega) (by omega)
  have x4 : (nI ((i + 1) % n)).toNatClampNeg = (i + 1) % n := zb_cl (by omega)
  have y3 : zq_xS (nI (pth ((i + 1) % n))) 7 := zb_x (by omega) (by omega)
  have y4 : (nI (pth ((i + 1) % n))).toNatClampNeg = pth ((i + 1) % n) := zb_cl (by omega)
  obtain ⟨k1, k2, k3⟩ := hk _ p1
  obtain ⟨k4, -, -⟩ := hk _ p3
  generalize hr : (zm_rest hi (pth i)).toNatClampNeg = r at k2 k3
  have loop := zq_findv (f := fun j (_ : Unit) => zq_P (d + 2) 86 71 [.ref 54, .int (nI i), .int (nI (pth i)), .int (nI (j + 1))] [] (zq_SG N, C, hl, zq_HR ca cb ca) Q) (p := fun j => decide (pth ((i + (j + 1)) % n) = pth i)) (n := r) (A := Q (some (.int 0)) (zq_SG N, C, hl, zq_HR ca cb ca)) (B := Q (some (.int 1)) (zq_SG N, C, hl, zq_HR ca cb ca))
    (fun j hj _ hpj => ⟨(), by
      have q := of_decide_eq_false hpj
      have ltj : (i + (j + 1)) % n < n := Nat.mod_lt _ hn0
      obtain ⟨pa, pb⟩ := hp _ ltj
      have h3 : (nI r < nI (j + 1)) = False := eq_false (nI_nlt (by omega) (by omega))
      have rj : nI (i + (j + 1)) - nI (i + (j + 1)) / nI n * nI n = nI ((i + (j + 1)) % n) := pk_rem (by omega) hn0 (by omega)
      have z1 : zq_xS (nI ((i + (j + 1)) % n)) 6 := zb_x (by omega) (by omega)
      have z2 : (nI ((i + (j + 1)) % n)).toNatClampNeg = (i + (j + 1)) % n := zb_cl (by omega)
      have z3 : (nI (pth ((i + (j + 1)) % n)) = nI (pth i)) = False := by rw [zb_eq (by omega) (by omega)]; exact eq_false q
      rw [zr86_71]
      simp only [zr86_0, zr86_1, zr86_4, zr86_7, zr86_8, zr86_9, zr86_10, zr86_13, zr86_14, zr86_15, zr86_16, zr86_17, zr86_20, zr86_23, zr86_24, zr86_25, zr86_26, zr86_29, zr86_30, zr86_31, zr86_32, zr86_35, zr86_36, zr86_37, zr86_40, zr86_43, zr86_44, zr86_47, zr86_48, zr86_51, zr86_52, zr86_53, zr86_54, zr86_55, zr86_58, zr86_59, zr86_60, zr86_61, zr86_64, zr86_67, zr86_68, zr86_69, zr86_70, zr86_72, zr86_73, zr86_76, zr86_79, zr86_80, zr86_81, zr86_84, zr86_85, zr86_88, zr86_89, zr86_90, zr86_91, zr86_92, zr86_95, zr86_96, zr86_97, zr86_98, zr86_101, zr86_102, zr86_103, zr86_106, zr86_109, zr86_110, zs_q0 N, zh_q0 ca cb ca, hc2, zq_kill_int, zq_kill_ref, zq_kill_ret, zq_kill_null, zq_kill_long, zq_rf_some, zq_rf_none, true_and, and_true, true_implies, not_true_eq_false, not_false_eq_true, false_implies, Bool.true_eq_false, Bool.false_eq_true, nI_1, zb_i0, zb_i1, zb_i2, Option.toList_some, Option.toList_none, List.cons_append, List.nil_append, true_or, or_true, implies_true, zb_it, zb_if, zb_10, zb_00, zb_n5, zb_n2, zb_m1, zb_m3, zb_m9, or_true, true_or, or_false, false_or, y1, y2, k3, h3, h54, en, nI_add, rj, z1, z2, pb, z3]⟩)
    (fun j hj _ hpj => by
      have q := of_decide_eq_true hpj
      have ltj : (i + (j + 1)) % n < n := Nat.mod_lt _ hn0
      obtain ⟨pa, pb⟩ := hp _ ltj
      have h3 : (nI r < nI (j + 1)) = False := eq_false (nI_nlt (by omega) (by omega))
      have rj : nI (i + (j + 1)) - nI (i + (j + 1)) / nI n * nI n = nI ((i + (j + 1)) % n) := pk_rem (by omega) hn0 (by omega)
      have z1 : zq_xS (nI ((i + (j + 1)) % n)) 6 := zb_x (by omega) (by omega)
      have z2 : (nI ((i + (j + 1)) % n)).toNatClampNeg = (i + (j + 1)) % n := zb_cl (by omega)
      rw [zr86_71]
      simp only [zr86_0, zr86_1, zr86_4, zr86_7, zr86_8, zr86_9, zr86_10, zr86_13, zr86_14, zr86_15, zr86_16, zr86_17, zr86_20, zr86_23, zr86_24, zr86_25, zr86_26, zr86_29, zr86_30, zr86_31, zr86_32, zr86_35, zr86_36, zr86_37, zr86_40, zr86_43, zr86_44, zr86_47, zr86_48, zr86_51, zr86_52, zr86_53, zr86_54, zr86_55, zr86_58, zr86_59, zr86_60, zr86_61, zr86_64, zr86_67, zr86_68, zr86_69, zr86_70, zr86_72, zr86_73, zr86_76, zr86_79, zr86_80, zr86_81, zr86_84, zr86_85, zr86_88, zr86_89, zr86_90, zr86_91, zr86_92, zr86_95, zr86_96, zr86_97, zr86_98, zr86_101, zr86_102, zr86_103, zr86_106, zr86_109, zr86_110, zs_q0 N, zh_q0 ca cb ca, hc2, zq_kill_int, zq_kill_ref, zq_kill_ret, zq_kill_null, zq_kill_long, zq_rf_some, zq_rf_none, true_and, and_true, true_implies, not_true_eq_false, not_false_eq_true, false_implies, Bool.true_eq_false, Bool.false_eq_true, nI_1, zb_i0, zb_i1, zb_i2, Option.toList_some, Option.toList_none, List.cons_append, List.nil_append, true_or, or_true, implies_true, zb_it, zb_if, zb_10, zb_00, zb_n5, zb_n2, zb_m1, zb_m3, zb_m9, or_true, true_or, or_false, false_or, y1, y2, k3, h3, h54, en, nI_add, rj, z1, z2, pb, q])
    (fun _ => by
      have h3 : (nI r < nI (r + 1)) = True := eq_true ((nI_ltI (by omega) (by omega)).mpr (by omega))
      rw [zr86_71]
      simp only [zr86_0, zr86_1, zr86_4, zr86_7, zr86_8, zr86_9, zr86_10, zr86_13, zr86_14, zr86_15, zr86_16, zr86_17, zr86_20, zr86_23, zr86_24, zr86_25, zr86_26, zr86_29, zr86_30, zr86_31, zr86_32, zr86_35, zr86_36, zr86_37, zr86_40, zr86_43, zr86_44, zr86_47, zr86_48, zr86_51, zr86_52, zr86_53, zr86_54, zr86_55, zr86_58, zr86_59, zr86_60, zr86_61, zr86_64, zr86_67, zr86_68, zr86_69, zr86_70, zr86_72, zr86_73, zr86_76, zr86_79, zr86_80, zr86_81, zr86_84, zr86_85, zr86_88, zr86_89, zr86_90, zr86_91, zr86_92, zr86_95, zr86_96, zr86_97, zr86_98, zr86_101, zr86_102, zr86_103, zr86_106, zr86_109, zr86_110, zs_q0 N, zh_q0 ca cb ca, hc2, zq_kill_int, zq_kill_ref, zq_kill_ret, zq_kill_null, zq_kill_long, zq_rf_some, zq_rf_none, true_and, and_true, true_implies, not_true_eq_false, not_false_eq_true, false_implies, Bool.true_eq_false, Bool.false_eq_true, nI_1, zb_i0, zb_i1, zb_i2, Option.toList_some, Option.toList_none, List.cons_append, List.nil_append, true_or, or_true, implies_true, zb_it, zb_if, zb_10, zb_00, zb_n5, zb_n2, zb_m1, zb_m3, zb_m9, or_true, true_or, or_false, false_or, y1, y2, k3, h3]) ()
  have loop2 : zq_P (d + 2) 86 71 [.ref 54, .int (nI i), .int (nI (pth i)), .int 1] [] (zq_SG N, C, hl, zq_HR ca cb ca) Q = _ := loop
  simp only [zr86_0, zr86_1, zr86_4, zr86_7, zr86_8, zr86_9, zr86_10, zr86_13, zr86_14, zr86_15, zr86_16, zr86_17, zr86_20, zr86_23, zr86_24, zr86_25, zr86_26, zr86_29, zr86_30, zr86_31, zr86_32, zr86_35, zr86_36, zr86_37, zr86_40, zr86_43, zr86_44, zr86_47, zr86_48, zr86_51, zr86_52, zr86_53, zr86_54, zr86_55, zr86_58, zr86_59, zr86_60, zr86_61, zr86_64, zr86_67, zr86_68, zr86_69, zr86_70, zr86_72, zr86_73, zr86_76, zr86_79, zr86_80, zr86_81, zr86_84, zr86_85, zr86_88, zr86_89, zr86_90, zr86_91, zr86_92, zr86_95, zr86_96, zr86_97, zr86_98, zr86_101, zr86_102, zr86_103, zr86_106, zr86_109, zr86_110, zs_q0 N, zh_q0 ca cb ca, hc2, zq_kill_int, zq_kill_ref, zq_kill_ret, zq_kill_null, zq_kill_long, zq_rf_some, zq_rf_none, true_and, and_true, true_implies, not_true_eq_false, not_false_eq_true, false_implies, Bool.true_eq_false, Bool.false_eq_true, nI_1, zb_i0, zb_i1, zb_i2, Option.toList_some, Option.toList_none, List.cons_append, List.nil_append, true_or, or_true, implies_true, zb_it, zb_if, zb_10, zb_00, zb_n5, zb_n2, zb_m1, zb_m3, zb_m9, or_true, true_or, or_false, false_or, h54, en, x1, x2, p2, y1, y2, k1, k_Court_isOf hc y1, k_Court_isOf hc y3, r1, r2, x3, x4, p4, y4, k4, zc_riot, loop2]
  unfold okr
  rw [hr]
  by_cases b1 : hi 69 (pth i) = 5 <;> cases b2 : zm_riot (hi 69 (pth i)) <;> cases b3 : zm_riot (hi 69 (pth ((i + 1) % n))) <;> cases b4 : zb_any (fun d => decide (pth ((i + (d + 1)) % n) = pth i)) r <;> simp [b1, zb_i]
theorem k_Search_goesRound (hca : ca = 36 ∨ ca = 45) (hn0 : 0 < n) (hn : n ≤ 5) (hW : W ≤ 7) (hp : ∀ i, i < n → pth i < W ∧ C 58 (i) = nI (pth i)) (h54 : C 54 4 = nI n) (hk : ∀ w, w < W → C (ca + 3) w = hi 69 w ∧ (zm_rest hi w).toNatClampNeg ≤ 6 ∧ C (ca + 8) w = nI (zm_rest hi w).toNatClampNeg) : zq_P (d + 3) 85 0 [.ref 54, .retAddr 0] [] (zq_SG N, C, hl, zq_HR ca cb ca) Q = Q (some (.int (zb_i (gro hi pth n)))) (zq_SG N, C, hl, zq_HR ca cb ca) := by
  have loop := zq_findv (f := fun i (_ : Unit) => zq_P (d + 3) 85 2 [.ref 54, .int (nI i)] [] (zq_SG N, C, hl, zq_HR ca cb ca) Q) (p := fun i => !okr hi pth n i) (n := n) (A := Q (some (.int 0)) (zq_SG N, C, hl, zq_HR ca cb ca)) (B := Q (some (.int 1)) (zq_SG N, C, hl, zq_HR ca cb ca))
    (fun i hi' _ hpi => ⟨(), by
      have h3 : (nI i < nI n) = True := eq_true ((nI_ltI (by omega) (by omega)).mpr hi')
      have q : okr hi pth n i = true := by simpa using hpi
      rw [zr85_2]
      simp only [zr85_0, zr85_1, zr85_3, zr85_4, zr85_7, zr85_10, zr85_11, zr85_12, zr85_15, zr85_18, zr85_19, zr85_20, zr85_23, zr85_26, zr85_27, zs_q0 N, zh_q0 ca cb ca, zq_kill_int, zq_kill_ref, zq_kill_ret, zq_kill_null, zq_kill_long, zq_rf_some, zq_rf_none, true_and, and_true, true_implies, not_true_eq_false, not_false_eq_true, false_implies, Bool.true_eq_false, Bool.false_eq_true, nI_1, zb_i0, zb_i1, zb_i2, Option.toList_some, Option.toList_none, List.cons_append, List.nil_append, true_or, or_true, implies_true, zb_it, zb_if, zb_10, zb_00, zb_n5, zb_n2, zb_m1, zb_m3, zb_m9, or_true, true_or, or_false, false_or, h54, h3, k_Search_goesRoundFrom hca hn0 hn hi' hW hp h54 hk, q]⟩)
    (fun i hi' _ hpi => by
      have h3 : (nI i < nI n) = True := eq_true ((nI_ltI (by omega) (by omega)).mpr hi')
      have q : okr hi pth n i = false := by simpa using hpi
      rw [zr85_2]
      simp only [zr85_0, zr85_1, zr85_3, zr85_4, zr85_7, zr85_10, zr85_11, zr85_12, zr85_15, zr85_18, zr85_19, zr85_20, zr85_23, zr85_26, zr85_27, zs_q0 N, zh_q0 ca cb ca, zq_kill_int, zq_kill_ref, zq_kill_ret, zq_kill_null, zq_kill_long, zq_rf_some, zq_rf_none, true_and, and_true, true_implies, not_true_eq_false, not_false_eq_true, false_implies, Bool.true_eq_false, Bool.false_eq_true, nI_1, zb_i0, zb_i1, zb_i2, Option.toList_some, Option.toList_none, List.cons_append, List.nil_append, true_or, or_true, implies_true, zb_it, zb_if, zb_10, zb_00, zb_n5, zb_n2, zb_m1, zb_m3, zb_m9, or_true, true_or, or_false, false_or, h54, h3, k_Search_goesRoundFrom hca hn0 hn hi' hW hp h54 hk, q])
    (fun _ => by
      have h3 : (nI n < nI n) = False := eq_false (nI_nlt (Nat.le_refl _) (by omega))
      rw [zr85_2]
      simp only [zr85_0, zr85_1, zr85_3, zr85_4, zr85_7, zr85_10, zr85_11, zr85_12, zr85_15, zr85_18, zr85_19, zr85_20, zr85_23, zr85_26, zr85_27, zs_q0 N, zh_q0 ca cb ca, zq_kill_int, zq_kill_ref, zq_kill_ret, zq_kill_null, zq_kill_long, zq_rf_some, zq_rf_none, true_and, and_true, true_implies, not_true_eq_false, not_false_eq_true, false_implies, Bool.true_eq_false, Bool.false_eq_true, nI_1, zb_i0, zb_i1, zb_i2, Option.toList_some, Option.toList_none, List.cons_append, List.nil_append, true_or, or_true, implies_true, zb_it, zb_if, zb_10, zb_00, zb_n5, zb_n2, zb_m1, zb_m3, zb_m9, or_true, true_or, or_false, false_or, h54, h3]) ()
  have loop2 : zq_P (d + 3) 85 2 [.ref 54, .int 0] [] (zq_SG N, C, hl, zq_HR ca cb ca) Q = _ := loop
  simp only [zr85_0, zr85_1, zr85_3, zr85_4, zr85_7, zr85_10, zr85_11, zr85_12, zr85_15, zr85_18, zr85_19, zr85_20, zr85_23, zr85_26, zr85_27, zq_kill_int, zq_kill_ref, zq_kill_ret, zq_kill_null, zq_kill_long, zq_rf_some, zq_rf_none, true_and, and_true, true_implies, not_true_eq_false, not_false_eq_true, false_implies, Bool.true_eq_false, Bool.false_eq_true, nI_1, zb_i0, zb_i1, zb_i2, Option.toList_some, Option.toList_none, List.cons_append, List.nil_append, true_or, or_true, implies_true, zb_it, zb_if, zb_10, zb_00, zb_n5, zb_n2, zb_m1, zb_m3, zb_m9, or_true, true_or, or_false, false_or, loop2]
  unfold gro
  cases zb_any (fun i => !okr hi pth n i) n <;> simp [zb_i]
theorem k_M_goesRound (hn0 : 0 < n) (hn : n ≤ 5) (hW : W ≤ 7) (hp : ∀ i, i < n → pth i < W ∧ M 80 i = nI (pth i)) (hk : ∀ w, w < W → M 69 w = hi 69 w ∧ (zm_rest hi w).toNatClampNeg ≤ 6 ∧ zm_rest M w = nI (zm_rest hi w).toNatClampNeg) : zq_P (d + 2) 186 0 [.ref 60, .int (nI n), .retAddr 0, .retAddr 0, .retAddr 0, .retAddr 0] [] (zq_SG N, M, hl, zq_HR ca cb cs) Q = Q (some (.int (zb_i (gro hi pth n)))) (zq_SG N, M, hl, zq_HR ca cb cs) := by
  have en : (nI n = 0) = False := eq_false (nI_ne0 (by omega) (by omega))
  have one : ∀ i, i < n → ∀ v : Value × Value × Value, ∃ v2 : Value × Value × Value, zq_P (d + 2) 186 2 [.ref 60, .int (nI n), .int (nI i), v.1, v.2.1, v.2.2] [] (zq_SG N, M, hl, zq_HR ca cb cs) Q = if okr hi pth n i = true then zq_P (d + 2) 186 2 [.ref 60, .int (nI n), .int (nI (i + 1)), v2.1, v2.2.1, v2.2.2] [] (zq_SG N, M, hl, zq_HR ca cb cs) Q else Q (some (.int 0)) (zq_SG N, M, hl, zq_HR ca cb cs) := by
    intro i hi' v
    obtain ⟨p1, p2⟩ := hp i hi'
    have h3 : (nI i < nI n) = True := eq_true ((nI_ltI (by omega) (by omega)).mpr hi')
    have x1 : zq_xS (nI i) 7 := zb_x (by omega) (by omega)
    have x2 : (nI i).toNatClampNeg = i := zb_cl (by omega)
    have y1 : zq_xS (nI (pth i)) 7 := zb_x (by omega) (by omega)
    have y2 : (nI (pth i)).toNatClampNeg = pth i := zb_cl (by omega)
    have lt1 : (i + 1) % n < n := Nat.mod_lt _ hn0
    obtain ⟨p3, p4⟩ := hp _ lt1
    have r2 : nI (i + 1) - nI (i + 1) / nI n * nI n = nI ((i + 1) % n) := pk_rem (by omega) hn0 (by omega)
    have x3 : zq_xS (nI ((i + 1) % n)) 7 := zb_x (by omega) (by omega)
    have x4 : (nI ((i + 1) % n)).toNatClampNeg = (i + 1) % n := zb_cl (by omega)
    have y3 : zq_xS (nI (pth ((i + 1) % n))) 7 := zb_x (by omega) (by omega)
    have y4 : (nI (pth ((i + 1) % n))).toNatClampNeg = pth ((i + 1) % n) := zb_cl (by omega)
    obtain ⟨k1, k2, k3⟩ := hk _ p1
    obtain ⟨k4, -, -⟩ := hk _ p3
    have hex : ∃ j, pth ((i + (j + 1)) % n) = pth i := ⟨n - 1, by rw [show i + (n - 1 + 1) = i + n by omega, Nat.add_mod_right, Nat.mod_eq_of_lt hi']⟩
    obtain ⟨j, hj1, hj2⟩ := pk_least _ hex
    have hjn : j < n := by
      rcases Nat.lt_or_ge j n with q | q
      · exact q
      · exact absurd (by rw [show i + (n - 1 + 1) = i + n by omega, Nat.add_mod_right, Nat.mod_eq_of_lt hi']) (hj2 (n - 1) (by omega))
    have inner := zq_loop (n := j) (f := fun k => zq_P (d + 2) 186 66 [.ref 60, .int (nI n), .int (nI i), .int (nI (pth i)), .int (nI (pth ((i + 1) % n))), .int (nI (k + 1))] [] (zq_SG N, M, hl, zq_HR ca cb cs) Q) fun k hk' => by
      have ltk : (i + (k + 1)) % n < n := Nat.mod_lt _ hn0
      obtain ⟨pa, pb⟩ := hp _ ltk
      have rj : nI (i + (k + 1)) - nI (i + (k + 1)) / nI n * nI n = nI ((i + (k + 1)) % n) := pk_rem (by omega) hn0 (by omega)
      have z1 : zq_xS (nI ((i + (k + 1)) % n)) 7 := zb_x (by omega) (by omega)
      have z2 : (nI ((i + (k + 1)) % n)).toNatClampNeg = (i + (k + 1)) % n := zb_cl (by omega)
      have z3 : (nI (pth ((i + (k + 1)) % n)) = nI (pth i)) = False := by rw [zb_eq (by omega) (by omega)]; exact eq_false (hj2 k hk')
      rw [zr186_66]
      simp only [zr186_0, zr186_1, zr186_3, zr186_4, zr186_7, zr186_8, zr186_11, zr186_12, zr186_13, zr186_14, zr186_15, zr186_18, zr186_19, zr186_20, zr186_21, zr186_22, zr186_23, zr186_24, zr186_26, zr186_27, zr186_30, zr186_31, zr186_32, zr186_33, zr186_36, zr186_37, zr186_40, zr186_41, zr186_42, zr186_45, zr186_48, zr186_49, zr186_52, zr186_54, zr186_55, zr186_58, zr186_61, zr186_62, zr186_63, zr186_64, zr186_67, zr186_70, zr186_71, zr186_73, zr186_74, zr186_75, zr186_76, zr186_77, zr186_78, zr186_81, zr186_84, zr186_87, zr186_89, zr186_90, zr186_91, zr186_94, zr186_97, zr186_98, zr186_99, zr186_102, zr186_105, zr186_106, zs_m0 N, zs_m1 N, zs_m2 N, zh_m0 ca cb cs, zq_kill_int, zq_kill_ref, zq_kill_ret, zq_kill_null, zq_kill_long, zq_rf_some, zq_rf_none, true_and, and_true, true_implies, not_true_eq_false, not_false_eq_true, false_implies, Bool.true_eq_false, Bool.false_eq_true, nI_1, zb_i0, zb_i1, zb_i2, Option.toList_some, Option.toList_none, List.cons_append, List.nil_append, true_or, or_true, implies_true, zb_it, zb_if, zb_10, zb_00, zb_n5, zb_n2, zb_m1, zb_m3, zb_m9, or_true, true_or, or_false, false_or, en, nI_add, rj, z1, z2, pb, z3]
    have inner2 : zq_P (d + 2) 186 66 [.ref 60, .int (nI n), .int (nI i), .int (nI (pth i)), .int (nI (pth ((i + 1) % n))), .int 1] [] (zq_SG N, M, hl, zq_HR ca cb cs) Q = zq_P (d + 2) 186 66 [.ref 60, .int (nI n), .int (nI i), .int (nI (pth i)), .int (nI (pth ((i + 1) % n))), .int (nI (j + 1))] [] (zq_SG N, M, hl, zq_HR ca cb cs) Q := inner
    have ltj : (i + (j + 1)) % n < n := Nat.mod_lt _ hn0
    obtain ⟨pa, pb⟩ := hp _ ltj
    have rj : nI (i + (j + 1)) - nI (i + (j + 1)) / nI n * nI n = nI ((i + (j + 1)) % n) := pk_rem (by omega) hn0 (by omega)
    have z1 : zq_xS (nI ((i + (j + 1)) % n)) 7 := zb_x (by omega) (by omega)
    have z2 : (nI ((i + (j + 1)) % n)).toNatClampNeg = (i + (j + 1)) % n := zb_cl (by omega)
    generalize hr : (zm_rest hi (pth i)).toNatClampNeg = r at k2 k3
    have hany : zb_any (fun d => decide (pth ((i + (d + 1)) % n) = pth i)) r = decide (j < r) := by
      rw [Bool.eq_iff_iff, zb_any_iff, decide_eq_true_eq]
      constructor
      · rintro ⟨k, hk', q⟩
        rcases Nat.lt_or_ge k j with q2 | q2
        · exact absurd (of_decide_eq_true q) (hj2 k q2)
        · omega
      · intro q
        exact ⟨j, q, decide_eq_true hj1⟩
    have tail : zq_P (d + 2) 186 66 [.ref 60, .int (nI n), .int (nI i), .int (nI (pth i)), .int (nI (pth ((i + 1) % n))), .int 1] [] (zq_SG N, M, hl, zq_HR ca cb cs) Q = if j < r then Q (some (.int 0)) (zq_SG N, M, hl, zq_HR ca cb cs) else zq_P (d + 2) 186 2 [.ref 60, .int (nI n), .int (nI (i + 1)), .int (nI (pth i)), .int (nI (pth ((i + 1) % n))), .int (nI (j + 1))] [] (zq_SG N, M, hl, zq_HR ca cb cs) Q := by
      have h9 : (nI r < nI (j + 1)) = (r < j + 1) := zb_lt (by omega) (by omega)
      rw [inner2, zr186_66]
      simp only [zr186_0, zr186_1, zr186_3, zr186_4, zr186_7, zr186_8, zr186_11, zr186_12, zr186_13, zr186_14, zr186_15, zr186_18, zr186_19, zr186_20, zr186_21, zr186_22, zr186_23, zr186_24, zr186_26, zr186_27, zr186_30, zr186_31, zr186_32, zr186_33, zr186_36, zr186_37, zr186_40, zr186_41, zr186_42, zr186_45, zr186_48, zr186_49, zr186_52, zr186_54, zr186_55, zr186_58, zr186_61, zr186_62, zr186_63, zr186_64, zr186_67, zr186_70, zr186_71, zr186_73, zr186_74, zr186_75, zr186_76, zr186_77, zr186_78, zr186_81, zr186_84, zr186_87, zr186_89, zr186_90, zr186_91, zr186_94, zr186_97, zr186_98, zr186_99, zr186_102, zr186_105, zr186_106, zs_m0 N, zs_m1 N, zs_m2 N, zh_m0 ca cb cs, zq_kill_int, zq_kill_ref, zq_kill_ret, zq_kill_null, zq_kill_long, zq_rf_some, zq_rf_none, true_and, and_true, true_implies, not_true_eq_false, not_false_eq_true, false_implies, Bool.true_eq_false, Bool.false_eq_true, nI_1, zb_i0, zb_i1, zb_i2, Option.toList_some, Option.toList_none, List.cons_append, List.nil_append, true_or, or_true, implies_true, zb_it, zb_if, zb_10, zb_00, zb_n5, zb_n2, zb_m1, zb_m3, zb_m9, or_true, true_or, or_false, false_or, en, nI_add, rj, z1, z2, pb, hj1, k_M_restOf (show pth i < 7 by omega), k3, h9]
      by_cases q : j < r
      · have : ¬ r < j + 1 := by omega
        simp [q, this]
      · have : r < j + 1 := by omega
        simp [q, this]
    have hokr : okr hi pth n i = (!(decide (hi 69 (pth i) = 5)) && !(zm_riot (hi 69 (pth i)) && zm_riot (hi 69 (pth ((i + 1) % n)))) && !decide (j < r)) := by
      unfold okr
      rw [hr, hany]
    by_cases b1 : hi 69 (pth i) = 5 <;> by_cases b2 : zm_riot (hi 69 (pth i)) = true <;> by_cases b3 : zm_riot (hi 69 (pth ((i + 1) % n))) = true <;> by_cases b4 : j < r
    all_goals
      refine ⟨(.int (nI (pth i)), .int (nI (pth ((i + 1) % n))), .int (nI (j + 1))), ?_⟩
      rw [hokr, zr186_2]
      simp only [zr186_0, zr186_1, zr186_3, zr186_4, zr186_7, zr186_8, zr186_11, zr186_12, zr186_13, zr186_14, zr186_15, zr186_18, zr186_19, zr186_20, zr186_21, zr186_22, zr186_23, zr186_24, zr186_26, zr186_27, zr186_30, zr186_31, zr186_32, zr186_33, zr186_36, zr186_37, zr186_40, zr186_41, zr186_42, zr186_45, zr186_48, zr186_49, zr186_52, zr186_54, zr186_55, zr186_58, zr186_61, zr186_62, zr186_63, zr186_64, zr186_67, zr186_70, zr186_71, zr186_73, zr186_74, zr186_75, zr186_76, zr186_77, zr186_78, zr186_81, zr186_84, zr186_87, zr186_89, zr186_90, zr186_91, zr186_94, zr186_97, zr186_98, zr186_99, zr186_102, zr186_105, zr186_106, zs_m0 N, zs_m1 N, zs_m2 N, zh_m0 ca cb cs, zq_kill_int, zq_kill_ref, zq_kill_ret, zq_kill_null, zq_kill_long, zq_rf_some, zq_rf_none, true_and, and_true, true_implies, not_true_eq_false, not_false_eq_true, false_implies, Bool.true_eq_false, Bool.false_eq_true, nI_1, zb_i0, zb_i1, zb_i2, Option.toList_some, Option.toList_none, List.cons_append, List.nil_append, true_or, or_true, implies_true, zb_it, zb_if, zb_10, zb_00, zb_n5, zb_n2, zb_m1, zb_m3, zb_m9, or_true, true_or, or_false, false_or, h3, x1, x2, p2, y1, y2, r2, en, x3, x4, p4, y3, y4, k1, k4, k_M_isRiot, tail]
      simp [b1, b2, b3, b4]
  have loop := zq_findv (f := fun i (v : Value × Value × Value) => zq_P (d + 2) 186 2 [.ref 60, .int (nI n), .int (nI i), v.1, v.2.1, v.2.2] [] (zq_SG N, M, hl, zq_HR ca cb cs) Q) (p := fun i => !okr hi pth n i) (n := n) (A := Q (some (.int 0)) (zq_SG N, M, hl, zq_HR ca cb cs)) (B := Q (some (.int 1)) (zq_SG N, M, hl, zq_HR ca cb cs))
    (fun i hi' v hpi => by
      have q : okr hi pth n i = true := by simpa using hpi
      obtain ⟨v2, e⟩ := one i hi' v
      rw [if_pos q] at e
      exact ⟨v2, e⟩)
    (fun i hi' v hpi => by
      have q : okr hi pth n i = false := by simpa using hpi
      obtain ⟨v2, e⟩ := one i hi' v
      rw [if_neg (by rw [q]; decide)] at e
      exact e)
    (fun v => by
      have h3 : (nI n < nI n) = False := eq_false (nI_nlt (Nat.le_refl _) (by omega))
      rw [zr186_2]
      simp only [zr186_0, zr186_1, zr186_3, zr186_4, zr186_7, zr186_8, zr186_11, zr186_12, zr186_13, zr186_14, zr186_15, zr186_18, zr186_19, zr186_20, zr186_21, zr186_22, zr186_23, zr186_24, zr186_26, zr186_27, zr186_30, zr186_31, zr186_32, zr186_33, zr186_36, zr186_37, zr186_40, zr186_41, zr186_42, zr186_45, zr186_48, zr186_49, zr186_52, zr186_54, zr186_55, zr186_58, zr186_61, zr186_62, zr186_63, zr186_64, zr186_67, zr186_70, zr186_71, zr186_73, zr186_74, zr186_75, zr186_76, zr186_77, zr186_78, zr186_81, zr186_84, zr186_87, zr186_89, zr186_90, zr186_91, zr186_94, zr186_97, zr186_98, zr186_99, zr186_102, zr186_105, zr186_106, zs_m0 N, zs_m1 N, zs_m2 N, zh_m0 ca cb cs, zq_kill_int, zq_kill_ref, zq_kill_ret, zq_kill_null, zq_kill_long, zq_rf_some, zq_rf_none, true_and, and_true, true_implies, not_true_eq_false, not_false_eq_true, false_implies, Bool.true_eq_false, Bool.false_eq_true, nI_1, zb_i0, zb_i1, zb_i2, Option.toList_some, Option.toList_none, List.cons_append, List.nil_append, true_or, or_true, implies_true, zb_it, zb_if, zb_10, zb_00, zb_n5, zb_n2, zb_m1, zb_m3, zb_m9, or_true, true_or, or_false, false_or, h3]) (.retAddr 0, .retAddr 0, .retAddr 0)
  have loop2 : zq_P (d + 2) 186 2 [.ref 60, .int (nI n), .int 0, .retAddr 0, .retAddr 0, .retAddr 0] [] (zq_SG N, M, hl, zq_HR ca cb cs) Q = _ := loop
  simp only [zr186_0, zr186_1, zr186_3, zr186_4, zr186_7, zr186_8, zr186_11, zr186_12, zr186_13, zr186_14, zr186_15, zr186_18, zr186_19, zr186_20, zr186_21, zr186_22, zr186_23, zr186_24, zr186_26, zr186_27, zr186_30, zr186_31, zr186_32, zr186_33, zr186_36, zr186_37, zr186_40, zr186_41, zr186_42, zr186_45, zr186_48, zr186_49, zr186_52, zr186_54, zr186_55, zr186_58, zr186_61, zr186_62, zr186_63, zr186_64, zr186_67, zr186_70, zr186_71, zr186_73, zr186_74, zr186_75, zr186_76, zr186_77, zr186_78, zr186_81, zr186_84, zr186_87, zr186_89, zr186_90, zr186_91, zr186_94, zr186_97, zr186_98, zr186_99, zr186_102, zr186_105, zr186_106, zq_kill_int, zq_kill_ref, zq_kill_ret, zq_kill_null, zq_kill_long, zq_rf_some, zq_rf_none, true_and, and_true, true_implies, not_true_eq_false, not_false_eq_true, false_implies, Bool.true_eq_false, Bool.false_eq_true, nI_1, zb_i0, zb_i1, zb_i2, Option.toList_some, Option.toList_none, List.cons_append, List.nil_append, true_or, or_true, implies_true, zb_it, zb_if, zb_10, zb_00, zb_n5, zb_n2, zb_m1, zb_m3, zb_m9, or_true, true_or, or_false, false_or, loop2]
  unfold gro
  cases zb_any (fun i => !okr hi pth n i) n <;> simp [zb_i]
end Z47
