/-! odds, mid -/
def zb_num (p : Nat → Bool) : Nat → Nat
  | 0 => 0
  | n + 1 => if p n = true then zb_num p n + 2 ^ n else zb_num p n
theorem zb_num_cong {p q : Nat → Bool} {n : Nat} (h : ∀ k, k < n → p k = q k) : zb_num p n = zb_num q n := by
  induction n with
  | zero => rfl
  | succ n ih => unfold zb_num; rw [ih (fun k hk => h k (by omega)), h n (by omega)]
theorem zb_setN {p : Nat → Bool} {W : Nat} (hW : W ≤ 7) : zb_set p W = nI (zb_num p W) ∧ zb_num p W < 2 ^ W := by
  have key : ∀ b0 b1 b2 b3 b4 b5 b6 : Bool, ∀ W, W ≤ 7 → zb_set (fun i => match i with | 0 => b0 | 1 => b1 | 2 => b2 | 3 => b3 | 4 => b4 | 5 => b5 | _ => b6) W = nI (zb_num (fun i => match i with | 0 => b0 | 1 => b1 | 2 => b2 | 3 => b3 | 4 => b4 | 5 => b5 | _ => b6) W) ∧ zb_num (fun i => match i with | 0 => b0 | 1 => b1 | 2 => b2 | 3 => b3 | 4 => b4 | 5 => b5 | _ => b6) W < 2 ^ W := by
    decide +kernel
  have h := key (p 0) (p 1) (p 2) (p 3) (p 4) (p 5) (p 6) W hW
  have e : ∀ j, j < 7 → (fun i => match i with | 0 => p 0 | 1 => p 1 | 2 => p 2 | 3 => p 3 | 4 => p 4 | 5 => p 5 | _ => p 6) j = p j := by
    intro j hj
    match j, hj with
    | 0, _ | 1, _ | 2, _ | 3, _ | 4, _ | 5, _ | 6, _ => rfl
  rw [zb_set_cong (q := p) (fun k hk => e k (by omega)), zb_num_cong (q := p) (fun k hk => e k (by omega))] at h
  exact h
theorem zb_set0 {p : Nat → Bool} {W : Nat} (hW : W ≤ 7) : (zb_set p W = 0) = (zb_any p W = false) := by
  have key : ∀ b0 b1 b2 b3 b4 b5 b6 : Bool, ∀ W, W ≤ 7 → (zb_set (fun i => match i with | 0 => b0 | 1 => b1 | 2 => b2 | 3 => b3 | 4 => b4 | 5 => b5 | _ => b6) W = 0 ↔ zb_any (fun i => match i with | 0 => b0 | 1 => b1 | 2 => b2 | 3 => b3 | 4 => b4 | 5 => b5 | _ => b6) W = false) := by
    decide +kernel
  have h := key (p 0) (p 1) (p 2) (p 3) (p 4) (p 5) (p 6) W hW
  have e : ∀ j, j < 7 → (fun i => match i with | 0 => p 0 | 1 => p 1 | 2 => p 2 | 3 => p 3 | 4 => p 4 | 5 => p 5 | _ => p 6) j = p j := by
    intro j hj
    match j, hj with
    | 0, _ | 1, _ | 2, _ | 3, _ | 4, _ | 5, _ | 6, _ => rfl
  have ea : zb_any (fun i => match i with | 0 => p 0 | 1 => p 1 | 2 => p 2 | 3 => p 3 | 4 => p 4 | 5 => p 5 | _ => p 6) W = zb_any p W := by
    rw [Bool.eq_iff_iff, zb_any_iff, zb_any_iff]
    constructor
    · rintro ⟨k, hk, q⟩; exact ⟨k, hk, by rw [← e k (by omega)]; exact q⟩
    · rintro ⟨k, hk, q⟩; exact ⟨k, hk, (e k (by omega)).trans q⟩
  rw [zb_set_cong (q := p) (fun k hk => e k (by omega)), ea] at h
  exact propext h
theorem zb_an8 : ∀ a, a < 8 → ∀ g, g < 8 → nI a &&& nI g = nI (a &&& g) := by decide
theorem zb_an0 : ∀ a, a < 8 → ∀ g, g < 8 → ((nI a &&& nI g = 0) ↔ (a &&& g = 0)) := by decide
theorem zb_b8 : ∀ a, a < 8 → ∀ k, k < 3 → nI a >>> (nI k &&& 31) &&& 1 = nI (a / 2 ^ k % 2) := by decide
theorem zb_b8z : ∀ a, a < 8 → ∀ k, k < 3 → ((nI a >>> (nI k &&& 31) &&& 1 = 0) ↔ (a / 2 ^ k % 2 = 0)) := by decide
theorem zb_b8o : ∀ a, a < 8 → ∀ k, k < 3 → ((nI a >>> (nI k &&& 31) &&& 1 = 1) ↔ ¬ (a / 2 ^ k % 2 = 0)) := by decide
theorem zb_ev : ∀ P, P ≤ 3 → (1 : Int32) <<< (nI P &&& 31) = nI (2 ^ P) := by decide
theorem zb_ev1 : ∀ P, P ≤ 3 → (1 : Int32) <<< (nI P &&& 31) - 1 = nI (2 ^ P - 1) := by decide
theorem zb_p8 : ∀ P, P ≤ 3 → 2 ^ P ≤ 8 := by decide
def wtC (g p a : Nat) : Nat → Nat
  | 0 => 1
  | k + 1 => if g / 2 ^ k % 2 = 0 then wtC g p a k * (if a / 2 ^ k % 2 = 0 then 12 - p else p) else wtC g p a k
def wtM (g p a : Nat) : Nat → Nat
  | 0 => if a &&& g = 0 then 1 else 0
  | k + 1 => wtM g p a k * (if g / 2 ^ k % 2 = 0 then (if a / 2 ^ k % 2 = 0 then 12 - p else p) else 1)
theorem wtM_eq (g p a : Nat) : ∀ k, wtM g p a k = if a &&& g = 0 then wtC g p a k else 0
  | 0 => rfl
  | k + 1 => by
    unfold wtM wtC
    rw [wtM_eq g p a k]
    by_cases e : a &&& g = 0
    · simp only [e, if_true]
      by_cases q : g / 2 ^ k % 2 = 0
      · simp only [q, if_true]
      · simp only [q, if_false, Nat.mul_one]
    · simp only [e, if_false, Nat.zero_mul]
theorem wtC_le (g p a : Nat) (hp : p ≤ 12) : ∀ k, wtC g p a k ≤ 12 ^ k
  | 0 => Nat.le_refl _
  | k + 1 => by
    have ih := wtC_le g p a hp k
    unfold wtC
    have h12 : 12 ^ (k + 1) = 12 ^ k * 12 := Nat.pow_succ ..
    split
    · rw [h12]
      exact Nat.mul_le_mul ih (by split <;> omega)
    · rw [h12]; omega
def loC (g p P : Nat) : Nat → Nat
  | 0 => 0
  | a + 1 => if a &&& g = 0 then loC g p P a + wtC g p a P else loC g p P a
def whM (g : Nat) : Nat → Nat
  | 0 => 1
  | k + 1 => whM g k * (if g / 2 ^ k % 2 = 0 then 12 else 1)
theorem lo_wh : ∀ P, P ≤ 3 → ∀ g, g < 2 ^ P → ∀ p, p ≤ 12 → loC g p P (2 ^ P) = whM g P := by decide +kernel
theorem wh_le : ∀ P, P ≤ 3 → ∀ g, g < 8 → 0 < whM g P ∧ whM g P ≤ 1728 := by decide +kernel
def upC (g p P : Nat) (wo : Nat → Nat) : Nat → Nat
  | 0 => 0
  | a + 1 => if a &&& g = 0 then upC g p P wo a + wtC g p a P * wo a else upC g p P wo a
theorem upC_le {g p P : Nat} {wo : Nat → Nat} (hP : P ≤ 3) (hp : p ≤ 12) (hw : ∀ a, wo a ≤ 20) : ∀ a, upC g p P wo a ≤ a * 34560
  | 0 => Nat.le_refl _
  | a + 1 => by
    have ih := upC_le (g := g) hP hp hw a
    have h1 := wtC_le g p a hp P
    have h2 : 12 ^ P ≤ 1728 := Nat.pow_le_pow_right (n := 12) (by omega) hP
    have h3 : wtC g p a P * wo a ≤ 34560 := Nat.mul_le_mul (Nat.le_trans h1 h2) (hw a)
    rw [upC, Nat.succ_mul]
    by_cases e : a &&& g = 0
    · rw [if_pos e]; exact Nat.add_le_add ih h3
    · rw [if_neg e]; exact Nat.le_trans ih (Nat.le_add_right _ _)
theorem loC_le {g p P : Nat} (hP : P ≤ 3) (hp : p ≤ 12) : ∀ a, loC g p P a ≤ a * 1728
  | 0 => Nat.le_refl _
  | a + 1 => by
    have ih := loC_le (g := g) hP hp a
    have h1 := wtC_le g p a hp P
    have h2 : 12 ^ P ≤ 1728 := Nat.pow_le_pow_right (n := 12) (by omega) hP
    rw [loC, Nat.succ_mul]
    by_cases e : a &&& g = 0
    · rw [if_pos e]; exact Nat.add_le_add ih (Nat.le_trans h1 h2)
    · rw [if_neg e]; exact Nat.le_trans ih (Nat.le_add_right _ _)
/-- least trouble of ways -/
def lms (t : Nat → Int32) (q : Nat → Bool) : Nat → Int32
  | 0 => 20
  | k + 1 => if q k = true then (if t k < lms t q k then t k else lms t q k) else lms t q k
theorem lms_chs {t : Nat → Int32} {q : Nat → Bool} {W : Nat} (ht : ∀ w, w < W → t w < 20) : ∀ k, k ≤ W → lms t q k = match chs q (fun w b => decide (t w < t b)) k with | none => 20 | some b => t b := by
  intro k
  induction k with
  | zero => intro _; rfl
  | succ k ih =>
    intro hk
    unfold lms
    rw [ih (by omega), chs_s]
    cases q k with
    | false => rfl
    | true =>
      cases e : chs q (fun w b => decide (t w < t b)) k with
      | none => simp only [if_true, bo, Bool.and_true, cond_true]; rw [if_pos (ht k (by omega))]
      | some b =>
        simp only [if_true, bo, Bool.true_and]
        by_cases h : t k < t b
        · rw [if_pos h, decide_eq_true h]; rfl
        · rw [if_neg h, decide_eq_false h]; rfl
theorem lms_nat {t : Nat → Int32} {q : Nat → Bool} {W : Nat} (ht : ∀ w, w < W → ∃ s, s ≤ 18 ∧ t w = nI s) : ∀ k, k ≤ W → ∃ s, s ≤ 20 ∧ lms t q k = nI s := by
  intro k
  induction k with
  | zero => intro _; exact ⟨20, by omega, rfl⟩
  | succ k ih =>
    intro hk
    unfold lms
    obtain ⟨s, hs, e⟩ := ih (by omega)
    obtain ⟨s2, hs2, e2⟩ := ht k (by omega)
    split
    · split
      · exact ⟨s2, by omega, e2⟩
      · exact ⟨s, hs, e⟩
    · exact ⟨s, hs, e⟩
theorem zm_tb18 : ∀ k, k ≤ 5 → ∀ t, t ≤ 9 → ∃ s, s ≤ 18 ∧ zm_tb (nI k) (nI t) = nI s := by
  have key : ∀ k, k ≤ 5 → ∀ t, t ≤ 9 → (zm_tb (nI k) (nI t)).toNatClampNeg ≤ 18 ∧ zm_tb (nI k) (nI t) = nI (zm_tb (nI k) (nI t)).toNatClampNeg := by decide +kernel
  intro k hk t ht
  exact ⟨_, (key k hk t ht).1, (key k hk t ht).2⟩
theorem sm_tr18 {hi : zq_I} {c W P : Nat} (h : sm_ct hi c W P) : ∀ w, w < W → ∃ s, s ≤ 18 ∧ zm_tr hi w = nI s := by
  intro w hw
  obtain ⟨-, -, -, -, -, -, ⟨k, hk, e1⟩, ⟨t, ht, e2⟩, -⟩ := h.2.2 w hw
  unfold zm_tr
  rw [e1, e2]
  exact zm_tb18 k hk t ht
/-- what a set of absent ones is worth -/
def wv (hi : zq_I) (W : Nat) (m : Bool) (x : Int32) : Int32 := if m = true then lms (zm_tr hi) (zm_can hi W x) W else zb_i (zb_any (zm_can hi W x) W)
section Z46
variable {N ca cb cs d W P D p g : Nat} {hi : zq_I} {hl : zq_J} {Q : Option Value → zq_G → Prop} {x : Int32} {m : Bool}
theorem wv_nat (h : sm_ct hi ca W P) (x : Int32) : (wv hi W m x).toNatClampNeg ≤ 20 ∧ wv hi W m x = nI (wv hi W m x).toNatClampNeg := by
  have : ∃ s, s ≤ 20 ∧ wv hi W m x = nI s := by
    unfold wv
    cases m with
    | true => rw [if_pos rfl]; exact lms_nat (sm_tr18 h) W (Nat.le_refl _)
    | false =>
      rw [if_neg (by decide)]
      cases zb_any (zm_can hi W x) W
      · exact ⟨0, by omega, rfl⟩
      · exact ⟨1, by omega, rfl⟩
  obtain ⟨s, hs, e⟩ := this
  rw [e, zb_cl (by omega)]
  exact ⟨hs, rfl⟩
theorem k_EF_leastTrouble (h : Sim hi hl ca cb cs W P D) (x : Int32) : zq_P (d + 2) 95 0 [.ref 0, .int (zb_set (zm_can hi W x) W), .retAddr 0] [] (zq_SG N, hi, hl, zq_HR ca cb cs) Q = Q (some (.int (lms (zm_tr hi) (zm_can hi W x) W))) (zq_SG N, hi, hl, zq_HR ca cb cs) := by
  have hca := h.court
  have hc := zq_Ct_ok (N := N) (ca := ca) (cb := cb) (cs := cs) h.court
  have ho := zq_Co_ok (N := N) (ca := ca) (cb := cb) (cs := cs) (o := 32) (Or.inl rfl)
  have hc2 := hc
  unfold zq_Ct at hc2
  have hct := h.2.2.2.2.2.1
  obtain ⟨⟨w1, w2, w3, w4, w5, w6, -⟩, -, wa⟩ := id hct
  have t20 : ∀ w, w < W → zm_tr hi w < 20 := fun w hw => by
    obtain ⟨s, hs, e⟩ := sm_tr18 hct w hw
    rw [e]; exact (nI_ltI (b := 20) (by omega) (by omega)).mpr (by omega)
  have ec : chs (zm_can hi W x) (bC hi ca 32 1) W = chs (zm_can hi W x) (fun w b => decide (zm_tr hi w < zm_tr hi b)) W := by
    refine chs_cong (fun _ _ => rfl) (fun w b hw hb => ?_) W (Nat.le_refl _)
    unfold bC
    rw [if_pos rfl, (wa w hw).2.2.2.1, (wa b hb).2.2.2.1]
  rw [lms_chs t20 W (Nat.le_refl _)]
  cases e : chs (zm_can hi W x) (fun w b => decide (zm_tr hi w < zm_tr hi b)) W with
  | none => simp only [zr95_0, zr95_1, zr95_4, zr95_5, zr95_8, zr95_9, zr95_10, zr95_13, zr95_14, zr95_15, zr95_18, zr95_19, zr95_22, zr95_25, zr95_26, zr95_29, zr95_32, zr95_33, zr95_34, zr95_37, zr95_39, zs_x0 N, zh_x0 ca cb cs, hc2, zq_kill_int, zq_kill_ref, zq_kill_ret, zq_kill_null, zq_kill_long, zq_rf_some, zq_rf_none, true_and, and_true, true_implies, not_true_eq_false, not_false_eq_true, false_implies, Bool.true_eq_false, Bool.false_eq_true, nI_1, zb_i0, zb_i1, zb_i2, Option.toList_some, Option.toList_none, List.cons_append, List.nil_append, true_or, or_true, implies_true, zb_it, zb_if, zb_10, zb_00, zb_n5, zb_n2, zb_m1, zb_m3, zb_m9, or_true, true_or, or_false, false_or, k_Course_choose hc ho w3 w1, ec, e, ddi_n, k_Court_hasWay hc, zc_has_re]
  | some b =>
    have hb := chs_lt e
    have x1 : zq_xS (nI b) 7 := zb_x (by omega) (by omega)
    have x2 : (nI b).toNatClampNeg = b := zb_cl (by omega)
    simp only [zr95_0, zr95_1, zr95_4, zr95_5, zr95_8, zr95_9, zr95_10, zr95_13, zr95_14, zr95_15, zr95_18, zr95_19, zr95_22, zr95_25, zr95_26, zr95_29, zr95_32, zr95_33, zr95_34, zr95_37, zr95_39, zs_x0 N, zh_x0 ca cb cs, hc2, zq_kill_int, zq_kill_ref, zq_kill_ret, zq_kill_null, zq_kill_long, zq_rf_some, zq_rf_none, true_and, and_true, true_implies, not_true_eq_false, not_false_eq_true, false_implies, Bool.true_eq_false, Bool.false_eq_true, nI_1, zb_i0, zb_i1, zb_i2, Option.toList_some, Option.toList_none, List.cons_append, List.nil_append, true_or, or_true, implies_true, zb_it, zb_if, zb_10, zb_00, zb_n5, zb_n2, zb_m1, zb_m3, zb_m9, or_true, true_or, or_false, false_or, k_Course_choose hc ho w3 w1, ec, e, ddi_w, k_Court_hasWay hc, zc_has_nI w3 w1 hb, x1, x2, (wa b hb).2.2.2.1]
theorem k_EF_weightOf {a : Nat} (hca : ca = 36 ∨ ca = 45) (hq : hi ca 9 = nI P) (hP : P ≤ 3) (ha : a < 8) (hg : g < 8) (hp : p ≤ 12) : zq_P d 94 0 [.ref 0, .int (nI a), .int (nI g), .int (nI p), .retAddr 0, .retAddr 0, .retAddr 0] [] (zq_SG N, hi, hl, zq_HR ca cb cs) Q = Q (some (.long (lN (wtC g p a P)))) (zq_SG N, hi, hl, zq_HR ca cb cs) := by
  have hc := zq_Ct_ok (N := N) (ca := ca) (cb := cb) (cs := cs) hca
  have loop := zq_loop (n := P) (f := fun k => zq_P d 94 6 [.ref 0, .int (nI a), .int (nI g), .int (nI p), .long (lN (wtC g p a k)), .retAddr 0, .int (nI k)] [] (zq_SG N, hi, hl, zq_HR ca cb cs) Q) fun k hk => by
    have h3 : (nI k < nI P) = True := eq_true ((nI_ltI (by omega) (by omega)).mpr hk)
    have e1 := zb_b8z g hg k (by omega)
    have e2 := zb_b8z a ha k (by omega)
    have e3 : (12 : Int32) - nI p = nI (12 - p) := pk_sub (a := 12) hp
    rw [zr94_6]
    simp only [zr94_0, zr94_1, zr94_3, zr94_4, zr94_8, zr94_9, zr94_12, zr94_15, zr94_18, zr94_19, zr94_21, zr94_22, zr94_23, zr94_24, zr94_27, zr94_29, zr94_30, zr94_32, zr94_33, zr94_34, zr94_35, zr94_38, zr94_39, zr94_40, zr94_43, zr94_45, zr94_46, zr94_47, zr94_48, zr94_49, zr94_51, zr94_54, zr94_57, zr94_59, zs_x0 N, zh_x0 ca cb cs, hc.1, zq_kill_int, zq_kill_ref, zq_kill_ret, zq_kill_null, zq_kill_long, zq_rf_some, zq_rf_none, true_and, and_true, true_implies, not_true_eq_false, not_false_eq_true, false_implies, Bool.true_eq_false, Bool.false_eq_true, nI_1, zb_i0, zb_i1, zb_i2, Option.toList_some, Option.toList_none, List.cons_append, List.nil_append, true_or, or_true, implies_true, zb_it, zb_if, zb_10, zb_00, zb_n5, zb_n2, zb_m1, zb_m3, zb_m9, or_true, true_or, or_false, false_or, hq, h3, e1, e2, e3, nI_l (show p < 2 ^ 31 by omega), nI_l (show 12 - p < 2 ^ 31 by omega), lN_mul, wtC]
    by_cases q1 : g / 2 ^ k % 2 = 0 <;> by_cases q2 : a / 2 ^ k % 2 = 0 <;> simp [q1, q2]
  have h3 : (nI P < nI P) = False := eq_false (nI_nlt (Nat.le_refl _) (by omega))
  simp only [zr94_0, zr94_1, zr94_3, zr94_4, zr94_8, zr94_9, zr94_12, zr94_15, zr94_18, zr94_19, zr94_21, zr94_22, zr94_23, zr94_24, zr94_27, zr94_29, zr94_30, zr94_32, zr94_33, zr94_34, zr94_35, zr94_38, zr94_39, zr94_40, zr94_43, zr94_45, zr94_46, zr94_47, zr94_48, zr94_49, zr94_51, zr94_54, zr94_57, zr94_59, zq_kill_int, zq_kill_ref, zq_kill_ret, zq_kill_null, zq_kill_long, zq_rf_some, zq_rf_none, true_and, and_true, true_implies, not_true_eq_false, not_false_eq_true, false_implies, Bool.true_eq_false, Bool.false_eq_true, nI_1, zb_i0, zb_i1, zb_i2, Option.toList_some, Option.toList_none, List.cons_append, List.nil_append, true_or, or_true, implies_true, zb_it, zb_if, zb_10, zb_00, zb_n5, zb_n2, zb_m1, zb_m3, zb_m9, or_true, true_or, or_false, false_or]
  refine Eq.trans loop ?_
  rw [zr94_6]
  simp only [zr94_0, zr94_1, zr94_3, zr94_4, zr94_8, zr94_9, zr94_12, zr94_15, zr94_18, zr94_19, zr94_21, zr94_22, zr94_23, zr94_24, zr94_27, zr94_29, zr94_30, zr94_32, zr94_33, zr94_34, zr94_35, zr94_38, zr94_39, zr94_40, zr94_43, zr94_45, zr94_46, zr94_47, zr94_48, zr94_49, zr94_51, zr94_54, zr94_57, zr94_59, zs_x0 N, zh_x0 ca cb cs, hc.1, zq_kill_int, zq_kill_ref, zq_kill_ret, zq_kill_null, zq_kill_long, zq_rf_some, zq_rf_none, true_and, and_true, true_implies, not_true_eq_false, not_false_eq_true, false_implies, Bool.true_eq_false, Bool.false_eq_true, nI_1, zb_i0, zb_i1, zb_i2, Option.toList_some, Option.toList_none, List.cons_append, List.nil_append, true_or, or_true, implies_true, zb_it, zb_if, zb_10, zb_00, zb_n5, zb_n2, zb_m1, zb_m3, zb_m9, or_true, true_or, or_false, false_or, hq, h3]
theorem k_EF_tellMean (h : Sim hi hl ca cb cs W P D) (hp : p ≤ 12) (hg : zb_set (zm_away hi (hi 60 25)) P = nI g) (hg2 : g < 2 ^ P) : zq_P (d + 4) 93 0 [.ref 0, .int (nI p), .int (zb_i m), .retAddr 0, .retAddr 0, .retAddr 0, .retAddr 0, .retAddr 0, .retAddr 0, .retAddr 0, .retAddr 0, .retAddr 0, .retAddr 0] [] (zq_SG N, hi, hl, zq_HR ca cb cs) Q = Q none (zq_SG N, hi, tlc hl (upC g p P (fun a => (wv hi W m (nI g ||| nI a)).toNatClampNeg) (2 ^ P)) (whM g P), zq_HR ca cb cs) := by
  have hca := h.court
  have hc := zq_Ct_ok (N := N) (ca := ca) (cb := cb) (cs := cs) h.court
  have ho := zq_Co_ok (N := N) (ca := ca) (cb := cb) (cs := cs) (o := 32) (Or.inl rfl)
  have hct := h.2.2.2.2.2.1
  have hco := sm_dd_co hct.1.1 h.2.2.2.2.2.2
  obtain ⟨⟨w1, w2, w3, w4, w5, w6, -⟩, -, wa⟩ := id hct
  have hd : hi 32 2 = hi 60 25 := by rw [hco.1.2.1, hco.1.2.2]
  have p8 := zb_p8 P w2
  have wN := fun a => (wv_nat (m := m) hct (nI g ||| nI a)).1
  have hlo := lo_wh P w2 g hg2 p hp
  have hwl := wh_le P w2 g (by omega)
  have hup := upC_le (g := g) (P := P) (wo := fun a => (wv hi W m (nI g ||| nI a)).toNatClampNeg) w2 hp wN (2 ^ P)
  generalize hwo : (fun a => (wv hi W m (nI g ||| nI a)).toNatClampNeg) = wo at hup ⊢
  have loop : ∀ v : Value × Value × Value × Value, zq_P (d + 4) 93 24 [.ref 0, .int (nI p), .int (zb_i m), .int (nI g), .long (lN (upC g p P wo 0)), .retAddr 0, .long (lN (loC g p P 0)), .retAddr 0, .int (nI 0), v.1, v.2.1, v.2.2.1, v.2.2.2] [] (zq_SG N, hi, hl, zq_HR ca cb cs) Q = Q none (zq_SG N, hi, tlc hl (upC g p P wo (2 ^ P)) (whM g P), zq_HR ca cb cs) := by
    refine zq_loopv (n := 2 ^ P) (f := fun a (v : Value × Value × Value × Value) => zq_P (d + 4) 93 24 [.ref 0, .int (nI p), .int (zb_i m), .int (nI g), .long (lN (upC g p P wo a)), .retAddr 0, .long (lN (loC g p P a)), .retAddr 0, .int (nI a), v.1, v.2.1, v.2.2.1, v.2.2.2] [] (zq_SG N, hi, hl, zq_HR ca cb cs) Q) (fun v => ?_) (fun a ha v => ?_)
    · have h3 : (nI (2 ^ P - 1) < nI (2 ^ P)) = True := eq_true ((nI_ltI (by omega) (by omega)).mpr (by have := Nat.two_pow_pos P; omega))
      rw [hlo, zr93_24]
      simp only [zr93_0, zr93_1, zr93_4, zr93_5, zr93_8, zr93_11, zr93_14, zr93_15, zr93_16, zr93_18, zr93_19, zr93_21, zr93_22, zr93_26, zr93_27, zr93_30, zr93_33, zr93_36, zr93_38, zr93_39, zr93_40, zr93_43, zr93_46, zr93_47, zr93_49, zr93_50, zr93_51, zr93_54, zr93_56, zr93_57, zr93_60, zr93_61, zr93_64, zr93_65, zr93_67, zr93_68, zr93_71, zr93_73, zr93_74, zr93_77, zr93_78, zr93_80, zr93_83, zr93_86, zr93_88, zr93_91, zr93_92, zr93_95, zr93_96, zr93_98, zr93_100, zr93_102, zr93_104, zr93_105, zr93_106, zr93_107, zr93_109, zr93_111, zr93_113, zr93_114, zr93_116, zr93_119, zr93_122, zr93_123, zr93_125, zr93_127, zr93_130, zr34_0, zr34_1, zr34_2, zr34_5, zr34_6, zr34_7, zr34_8, zs_x0 N, zh_x0 ca cb cs, hc.1, zq_kill_int, zq_kill_ref, zq_kill_ret, zq_kill_null, zq_kill_long, zq_rf_some, zq_rf_none, true_and, and_true, true_implies, not_true_eq_false, not_false_eq_true, false_implies, Bool.true_eq_false, Bool.false_eq_true, nI_1, zb_i0, zb_i1, zb_i2, Option.toList_some, Option.toList_none, List.cons_append, List.nil_append, true_or, or_true, implies_true, zb_it, zb_if, zb_10, zb_00, zb_n5, zb_n2, zb_m1, zb_m3, zb_m9, or_true, true_or, or_false, false_or, w5, zb_ev1 P w2, h3, k_EF_tell (show upC g p P wo (2 ^ P) < 2 ^ 62 by omega) hwl.1 (show whM g P < 2 ^ 62 by omega)]
    · have h3 : (nI (2 ^ P - 1) < nI a) = False := eq_false (nI_nlt (by omega) (by omega))
      have e1 := zb_an0 a (by omega) g (by omega)
      by_cases q : a &&& g = 0
      · refine ⟨(.long (lN (wtC g p a P)), .retAddr 0, .int (zb_set (zm_can hi W (nI g ||| nI a)) W), .int (nI (wo a))), ?_⟩
        have ewo : wv hi W m (nI g ||| nI a) = nI (wo a) := by rw [← hwo]; exact (wv_nat hct _).2
        have b1 := wtC_le g p a hp P
        have b2 : 12 ^ P ≤ 1728 := Nat.pow_le_pow_right (n := 12) (by omega) w2
        have b3 : wo a ≤ 20 := by rw [← hwo]; exact wN a
        have l1 : (nI (wo a)).toInt64 = lN (wo a) := nI_l (by omega)
        have ow := fun Q => k_Course_openWays (Q := Q) (d := d) (hl := hl) (gone := nI g ||| nI a) hc ho w3 w1
        have ow2 : ∀ Q, zq_P (d + 3) 45 0 [.ref 32, .ref ca, .int (nI g ||| nI a), .retAddr 0, .retAddr 0] [] (zq_SG N, hi, hl, zq_HR ca cb cs) Q = Q (some (.int (zb_set (zm_can hi W (nI g ||| nI a)) W))) (zq_SG N, hi, hl, zq_HR ca cb cs) := fun Q => by rw [ow, sm_opens hct hco]
        have ea : ((nI a &&& nI g = 0) = True) := eq_true (e1.mpr q)
        have eu : upC g p P wo (a + 1) = upC g p P wo a + wtC g p a P * wo a := by rw [upC, if_pos q]
        have el : loC g p P (a + 1) = loC g p P a + wtC g p a P := by rw [loC, if_pos q]
        rw [eu, el, zr93_24]
        cases m with
        | true =>
          have lt := fun Q => k_EF_leastTrouble (Q := Q) (N := N) (d := d + 1) h (nI g ||| nI a)
          have ew2 : lms (zm_tr hi) (zm_can hi W (nI g ||| nI a)) W = nI (wo a) := by rw [← ewo]; rfl
          simp only [zr93_0, zr93_1, zr93_4, zr93_5, zr93_8, zr93_11, zr93_14, zr93_15, zr93_16, zr93_18, zr93_19, zr93_21, zr93_22, zr93_26, zr93_27, zr93_30, zr93_33, zr93_36, zr93_38, zr93_39, zr93_40, zr93_43, zr93_46, zr93_47, zr93_49, zr93_50, zr93_51, zr93_54, zr93_56, zr93_57, zr93_60, zr93_61, zr93_64, zr93_65, zr93_67, zr93_68, zr93_71, zr93_73, zr93_74, zr93_77, zr93_78, zr93_80, zr93_83, zr93_86, zr93_88, zr93_91, zr93_92, zr93_95, zr93_96, zr93_98, zr93_100, zr93_102, zr93_104, zr93_105, zr93_106, zr93_107, zr93_109, zr93_111, zr93_113, zr93_114, zr93_116, zr93_119, zr93_122, zr93_123, zr93_125, zr93_127, zr93_130, zr34_0, zr34_1, zr34_2, zr34_5, zr34_6, zr34_7, zr34_8, zs_x0 N, zh_x0 ca cb cs, hc.1, ho.1, zq_kill_int, zq_kill_ref, zq_kill_ret, zq_kill_null, zq_kill_long, zq_rf_some, zq_rf_none, true_and, and_true, true_implies, not_true_eq_false, not_false_eq_true, false_implies, Bool.true_eq_false, Bool.false_eq_true, nI_1, zb_i0, zb_i1, zb_i2, Option.toList_some, Option.toList_none, List.cons_append, List.nil_append, true_or, or_true, implies_true, zb_it, zb_if, zb_10, zb_00, zb_n5, zb_n2, zb_m1, zb_m3, zb_m9, or_true, true_or, or_false, false_or, w5, zb_ev1 P w2, h3, ea, k_EF_weightOf hca w5 w2 (show a < 8 by omega) (show g < 8 by omega) hp, ow2, lt, ew2, l1, lN_mul, lN_add]
        | false =>
          have ew2 : zb_i (zb_any (zm_can hi W (nI g ||| nI a)) W) = nI (wo a) := by rw [← ewo]; rfl
          simp only [zr93_0, zr93_1, zr93_4, zr93_5, zr93_8, zr93_11, zr93_14, zr93_15, zr93_16, zr93_18, zr93_19, zr93_21, zr93_22, zr93_26, zr93_27, zr93_30, zr93_33, zr93_36, zr93_38, zr93_39, zr93_40, zr93_43, zr93_46, zr93_47, zr93_49, zr93_50, zr93_51, zr93_54, zr93_56, zr93_57, zr93_60, zr93_61, zr93_64, zr93_65, zr93_67, zr93_68, zr93_71, zr93_73, zr93_74, zr93_77, zr93_78, zr93_80, zr93_83, zr93_86, zr93_88, zr93_91, zr93_92, zr93_95, zr93_96, zr93_98, zr93_100, zr93_102, zr93_104, zr93_105, zr93_106, zr93_107, zr93_109, zr93_111, zr93_113, zr93_114, zr93_116, zr93_119, zr93_122, zr93_123, zr93_125, zr93_127, zr93_130, zr34_0, zr34_1, zr34_2, zr34_5, zr34_6, zr34_7, zr34_8, zs_x0 N, zh_x0 ca cb cs, hc.1, ho.1, zq_kill_int, zq_kill_ref, zq_kill_ret, zq_kill_null, zq_kill_long, zq_rf_some, zq_rf_none, true_and, and_true, true_implies, not_true_eq_false, not_false_eq_true, false_implies, Bool.true_eq_false, Bool.false_eq_true, nI_1, zb_i0, zb_i1, zb_i2, Option.toList_some, Option.toList_none, List.cons_append, List.nil_append, true_or, or_true, implies_true, zb_it, zb_if, zb_10, zb_00, zb_n5, zb_n2, zb_m1, zb_m3, zb_m9, or_true, true_or, or_false, false_or, w5, zb_ev1 P w2, h3, ea, k_EF_weightOf hca w5 w2 (show a < 8 by omega) (show g < 8 by omega) hp, ow2, zb_set0 w1]
          cases hz : zb_any (zm_can hi W (nI g ||| nI a)) W with
          | true =>
            rw [hz] at ew2
            have e5 : wo a = 1 := by
              have := (zb_eq (a := 1) (b := wo a) (by omega) (by omega)).mp ew2
              omega
            rw [e5]
            simp [lN_add]
            exact Iff.rfl
          | false =>
            rw [hz] at ew2
            have e5 : wo a = 0 := by
              have := (zb_eq (a := 0) (b := wo a) (by omega) (by omega)).mp ew2
              omega
            rw [e5]
            simp [lN_add]
            exact Iff.rfl
      · refine ⟨v, ?_⟩
        have ea : ((nI a &&& nI g = 0) = False) := eq_false (fun z => q (e1.mp z))
        have eu : upC g p P wo (a + 1) = upC g p P wo a := by rw [upC, if_neg q]
        have el : loC g p P (a + 1) = loC g p P a := by rw [loC, if_neg q]
        rw [eu, el, zr93_24]
        simp only [zr93_0, zr93_1, zr93_4, zr93_5, zr93_8, zr93_11, zr93_14, zr93_15, zr93_16, zr93_18, zr93_19, zr93_21, zr93_22, zr93_26, zr93_27, zr93_30, zr93_33, zr93_36, zr93_38, zr93_39, zr93_40, zr93_43, zr93_46, zr93_47, zr93_49, zr93_50, zr93_51, zr93_54, zr93_56, zr93_57, zr93_60, zr93_61, zr93_64, zr93_65, zr93_67, zr93_68, zr93_71, zr93_73, zr93_74, zr93_77, zr93_78, zr93_80, zr93_83, zr93_86, zr93_88, zr93_91, zr93_92, zr93_95, zr93_96, zr93_98, zr93_100, zr93_102, zr93_104, zr93_105, zr93_106, zr93_107, zr93_109, zr93_111, zr93_113, zr93_114, zr93_116, zr93_119, zr93_122, zr93_123, zr93_125, zr93_127, zr93_130, zr34_0, zr34_1, zr34_2, zr34_5, zr34_6, zr34_7, zr34_8, zs_x0 N, zh_x0 ca cb cs, hc.1, zq_kill_int, zq_kill_ref, zq_kill_ret, zq_kill_null, zq_kill_long, zq_rf_some, zq_rf_none, true_and, and_true, true_implies, not_true_eq_false, not_false_eq_true, false_implies, Bool.true_eq_false, Bool.false_eq_true, nI_1, zb_i0, zb_i1, zb_i2, Option.toList_some, Option.toList_none, List.cons_append, List.nil_append, true_or, or_true, implies_true, zb_it, zb_if, zb_10, zb_00, zb_n5, zb_n2, zb_m1, zb_m3, zb_m9, or_true, true_or, or_false, false_or, w5, zb_ev1 P w2, h3, ea]
  have l := loop (.retAddr 0, .retAddr 0, .retAddr 0, .retAddr 0)
  simp only [zr93_0, zr93_1, zr93_4, zr93_5, zr93_8, zr93_11, zr93_14, zr93_15, zr93_16, zr93_18, zr93_19, zr93_21, zr93_22, zr93_26, zr93_27, zr93_30, zr93_33, zr93_36, zr93_38, zr93_39, zr93_40, zr93_43, zr93_46, zr93_47, zr93_49, zr93_50, zr93_51, zr93_54, zr93_56, zr93_57, zr93_60, zr93_61, zr93_64, zr93_65, zr93_67, zr93_68, zr93_71, zr93_73, zr93_74, zr93_77, zr93_78, zr93_80, zr93_83, zr93_86, zr93_88, zr93_91, zr93_92, zr93_95, zr93_96, zr93_98, zr93_100, zr93_102, zr93_104, zr93_105, zr93_106, zr93_107, zr93_109, zr93_111, zr93_113, zr93_114, zr93_116, zr93_119, zr93_122, zr93_123, zr93_125, zr93_127, zr93_130, zs_x0 N, zh_x0 ca cb cs, hc.1, zq_kill_int, zq_kill_ref, zq_kill_ret, zq_kill_null, zq_kill_long, zq_rf_some, zq_rf_none, true_and, and_true, true_implies, not_true_eq_false, not_false_eq_true, false_implies, Bool.true_eq_false, Bool.false_eq_true, nI_1, zb_i0, zb_i1, zb_i2, Option.toList_some, Option.toList_none, List.cons_append, List.nil_append, true_or, or_true, implies_true, zb_it, zb_if, zb_10, zb_00, zb_n5, zb_n2, zb_m1, zb_m3, zb_m9, or_true, true_or, or_false, false_or, k_Court_awayOn hc w5 w2, sm_aw hct, hd, hg]
  exact l
theorem k_M_has {a k : Nat} {gg : zq_G} (ha : a < 8) (hk : k < 3) : zq_P d 191 0 [.int (nI a), .int (nI k)] [] gg Q = Q (some (.int (zb_i (decide (¬ a / 2 ^ k % 2 = 0))))) gg := by
  obtain ⟨S, hi, hl, hr⟩ := gg
  have e := zb_b8o a ha k hk
  simp only [zr191_0, zr191_1, zr191_2, zr191_3, zr191_4, zr191_5, zr191_6, zr191_9, zr191_10, zr191_13, zr191_14, e, zb_i, decide_eq_true_eq]
  by_cases q : a / 2 ^ k % 2 = 0 <;> simp [q]
theorem k_M_sums (h : Sim hi hl ca cb cs W P D) (hp : p ≤ 12) (hg : zb_set (zm_away hi (hi 60 25)) P = nI g) (hg2 : g < 2 ^ P) {hl2 : zq_J} : zq_P (d + 4) 194 0 [.ref 60, .int (nI p), .int (zb_i m), .retAddr 0, .retAddr 0, .retAddr 0, .retAddr 0, .retAddr 0, .retAddr 0, .retAddr 0, .retAddr 0, .retAddr 0, .retAddr 0, .retAddr 0] [] (zq_SG N, hi, hl2, zq_HR ca cb cs) Q = Q (some (.int 1)) (zq_SG N, hi, tlm hl2 (upC g p P (fun a => (wv hi W m (nI g ||| nI a)).toNatClampNeg) (2 ^ P)) (whM g P), zq_HR ca cb cs) := by
  have hct := h.2.2.2.2.2.1
  obtain ⟨⟨w1, w2, w3, w4, w5, w6, -⟩, -, wa⟩ := id hct
  have p8 := zb_p8 P w2
  have wN := fun a => (wv_nat (m := m) hct (nI g ||| nI a)).1
  have hwl := wh_le P w2 g (by omega)
  have hup := upC_le (g := g) (P := P) (wo := fun a => (wv hi W m (nI g ||| nI a)).toNatClampNeg) w2 hp wN (2 ^ P)
  generalize hwo : (fun a => (wv hi W m (nI g ||| nI a)).toNatClampNeg) = wo at hup ⊢
  have fP : (nI P < nI P) = False := eq_false (nI_nlt (Nat.le_refl _) (by omega))
  have e3 : (12 : Int32) - nI p = nI (12 - p) := pk_sub (a := 12) hp
  have l12 : (12 : Int64) = lN 12 := rfl
  have l1 : (1 : Int64) = lN 1 := rfl
  have outer : ∀ v : Value × Value × Value × Value × Value, zq_P (d + 4) 194 57 [.ref 60, .int (nI p), .int (zb_i m), .int (nI g), .long (lN (upC g p P wo 0)), .retAddr 0, .long (lN (whM g P)), .retAddr 0, .int (nI 0), v.1, v.2.1, v.2.2.1, v.2.2.2.1, v.2.2.2.2] [] (zq_SG N, hi, hl2, zq_HR ca cb cs) Q = Q (some (.int 1)) (zq_SG N, hi, tlm hl2 (upC g p P wo (2 ^ P)) (whM g P), zq_HR ca cb cs) := by
    refine zq_loopv (n := 2 ^ P) (f := fun a (v : Value × Value × Value × Value × Value) => zq_P (d + 4) 194 57 [.ref 60, .int (nI p), .int (zb_i m), .int (nI g), .long (lN (upC g p P wo a)), .retAddr 0, .long (lN (whM g P)), .retAddr 0, .int (nI a), v.1, v.2.1, v.2.2.1, v.2.2.2.1, v.2.2.2.2] [] (zq_SG N, hi, hl2, zq_HR ca cb cs) Q) (fun v => ?_) (fun a ha v => ?_)
    · have h3 : (nI (2 ^ P) < nI (2 ^ P)) = False := eq_false (nI_nlt (Nat.le_refl _) (by omega))
      rw [zr194_57]
      simp only [zr194_0, zr194_1, zr194_2, zr194_5, zr194_8, zr194_9, zr194_10, zr194_12, zr194_13, zr194_15, zr194_16, zr194_20, zr194_21, zr194_24, zr194_27, zr194_29, zr194_30, zr194_32, zr194_35, zr194_38, zr194_39, zr194_42, zr194_45, zr194_46, zr194_48, zr194_51, zr194_54, zr194_55, zr194_59, zr194_60, zr194_61, zr194_64, zr194_65, zr194_68, zr194_70, zr194_71, zr194_72, zr194_75, zr194_76, zr194_79, zr194_80, zr194_82, zr194_83, zr194_87, zr194_88, zr194_91, zr194_94, zr194_96, zr194_97, zr194_99, zr194_102, zr194_105, zr194_106, zr194_109, zr194_111, zr194_113, zr194_116, zr194_119, zr194_120, zr194_121, zr194_124, zr194_126, zr194_127, zr194_128, zr194_129, zr194_130, zr194_132, zr194_135, zr194_138, zr194_140, zr194_142, zr194_143, zr194_145, zr194_146, zr194_150, zr194_151, zr194_154, zr194_157, zr194_158, zr194_160, zr194_161, zr194_163, zr194_164, zr194_167, zr194_170, zr194_171, zr194_173, zr194_174, zr194_176, zr194_179, zr194_181, zr194_184, zr194_185, zr194_187, zr194_190, zr194_193, zr194_195, zr194_197, zr194_200, zr194_203, zr194_205, zr194_206, zr194_209, zr194_211, zr194_213, zr194_214, zr194_215, zr194_218, zr194_220, zr194_223, zr194_225, zr194_228, zr194_229, zr194_230, zr194_232, zr194_235, zr194_238, zr194_239, zr194_241, zr194_243, zr194_246, zs_m0 N, zs_m1 N, zs_m2 N, zh_m0 ca cb cs, zq_kill_int, zq_kill_ref, zq_kill_ret, zq_kill_null, zq_kill_long, zq_rf_some, zq_rf_none, true_and, and_true, true_implies, not_true_eq_false, not_false_eq_true, false_implies, Bool.true_eq_false, Bool.false_eq_true, nI_1, zb_i0, zb_i1, zb_i2, Option.toList_some, Option.toList_none, List.cons_append, List.nil_append, true_or, or_true, implies_true, zb_it, zb_if, zb_10, zb_00, zb_n5, zb_n2, zb_m1, zb_m3, zb_m9, or_true, true_or, or_false, false_or, w6, zb_ev P w2, h3, k_M_part (show upC g p P wo (2 ^ P) < 2 ^ 62 by omega) hwl.1 (show whM g P < 2 ^ 62 by omega)]
    · have h3 : (nI a < nI (2 ^ P)) = True := eq_true ((nI_ltI (by omega) (by omega)).mpr ha)
      have e1 := zb_an0 a (by omega) g (by omega)
      have hin : ∀ v2 : Value × Value, zq_P (d + 4) 194 85 [.ref 60, .int (nI p), .int (zb_i m), .int (nI g), .long (lN (upC g p P wo a)), .retAddr 0, .long (lN (whM g P)), .retAddr 0, .int (nI a), .long (lN (wtM g p a 0)), .retAddr 0, .int (nI 0), v2.1, v2.2] [] (zq_SG N, hi, hl2, zq_HR ca cb cs) Q = zq_P (d + 4) 194 85 [.ref 60, .int (nI p), .int (zb_i m), .int (nI g), .long (lN (upC g p P wo a)), .retAddr 0, .long (lN (whM g P)), .retAddr 0, .int (nI a), .long (lN (wtM g p a P)), .retAddr 0, .int (nI P), v2.1, v2.2] [] (zq_SG N, hi, hl2, zq_HR ca cb cs) Q := by
        intro v2
        refine zq_loop (f := fun k => zq_P (d + 4) 194 85 [.ref 60, .int (nI p), .int (zb_i m), .int (nI g), .long (lN (upC g p P wo a)), .retAddr 0, .long (lN (whM g P)), .retAddr 0, .int (nI a), .long (lN (wtM g p a k)), .retAddr 0, .int (nI k), v2.1, v2.2] [] (zq_SG N, hi, hl2, zq_HR ca cb cs) Q) fun k hk => ?_
        have k3 : (nI k < nI P) = True := eq_true ((nI_ltI (by omega) (by omega)).mpr hk)
        rw [zr194_85]
        simp only [zr194_0, zr194_1, zr194_2, zr194_5, zr194_8, zr194_9, zr194_10, zr194_12, zr194_13, zr194_15, zr194_16, zr194_20, zr194_21, zr194_24, zr194_27, zr194_29, zr194_30, zr194_32, zr194_35, zr194_38, zr194_39, zr194_42, zr194_45, zr194_46, zr194_48, zr194_51, zr194_54, zr194_55, zr194_59, zr194_60, zr194_61, zr194_64, zr194_65, zr194_68, zr194_70, zr194_71, zr194_72, zr194_75, zr194_76, zr194_79, zr194_80, zr194_82, zr194_83, zr194_87, zr194_88, zr194_91, zr194_94, zr194_96, zr194_97, zr194_99, zr194_102, zr194_105, zr194_106, zr194_109, zr194_111, zr194_113, zr194_116, zr194_119, zr194_120, zr194_121, zr194_124, zr194_126, zr194_127, zr194_128, zr194_129, zr194_130, zr194_132, zr194_135, zr194_138, zr194_140, zr194_142, zr194_143, zr194_145, zr194_146, zr194_150, zr194_151, zr194_154, zr194_157, zr194_158, zr194_160, zr194_161, zr194_163, zr194_164, zr194_167, zr194_170, zr194_171, zr194_173, zr194_174, zr194_176, zr194_179, zr194_181, zr194_184, zr194_185, zr194_187, zr194_190, zr194_193, zr194_195, zr194_197, zr194_200, zr194_203, zr194_205, zr194_206, zr194_209, zr194_211, zr194_213, zr194_214, zr194_215, zr194_218, zr194_220, zr194_223, zr194_225, zr194_228, zr194_229, zr194_230, zr194_232, zr194_235, zr194_238, zr194_239, zr194_241, zr194_243, zr194_246, zs_m0 N, zs_m1 N, zs_m2 N, zh_m0 ca cb cs, zq_kill_int, zq_kill_ref, zq_kill_ret, zq_kill_null, zq_kill_long, zq_rf_some, zq_rf_none, true_and, and_true, true_implies, not_true_eq_false, not_false_eq_true, false_implies, Bool.true_eq_false, Bool.false_eq_true, nI_1, zb_i0, zb_i1, zb_i2, Option.toList_some, Option.toList_none, List.cons_append, List.nil_append, true_or, or_true, implies_true, zb_it, zb_if, zb_10, zb_00, zb_n5, zb_n2, zb_m1, zb_m3, zb_m9, or_true, true_or, or_false, false_or, w6, k3, k_M_has (show g < 8 by omega) (show k < 3 by omega), k_M_has (show a < 8 by omega) (show k < 3 by omega), e3, l1, nI_l (show p < 2 ^ 31 by omega), nI_l (show 12 - p < 2 ^ 31 by omega), lN_mul, wtM]
        by_cases q1 : g / 2 ^ k % 2 = 0 <;> by_cases q2 : a / 2 ^ k % 2 = 0 <;> simp [q1, q2]
      have hin2 : zq_P (d + 4) 194 148 [.ref 60, .int (nI p), .int (zb_i m), .int (nI g), .long (lN (upC g p P wo a)), .retAddr 0, .long (lN (whM g P)), .retAddr 0, .int (nI a), .long (lN (wtM g p a P)), .retAddr 0, .int (lms (zm_tr hi) (zm_can hi W (nI g ||| nI a)) 0), .int (zb_i (zb_any (zm_can hi W (nI g ||| nI a)) 0)), .int (nI 0)] [] (zq_SG N, hi, hl2, zq_HR ca cb cs) Q = zq_P (d + 4) 194 148 [.ref 60, .int (nI p), .int (zb_i m), .int (nI g), .long (lN (upC g p P wo a)), .retAddr 0, .long (lN (whM g P)), .retAddr 0, .int (nI a), .long (lN (wtM g p a P)), .retAddr 0, .int (lms (zm_tr hi) (zm_can hi W (nI g ||| nI a)) W), .int (zb_i (zb_any (zm_can hi W (nI g ||| nI a)) W)), .int (nI W)] [] (zq_SG N, hi, hl2, zq_HR ca cb cs) Q := by
        refine zq_loop (f := fun k => zq_P (d + 4) 194 148 [.ref 60, .int (nI p), .int (zb_i m), .int (nI g), .long (lN (upC g p P wo a)), .retAddr 0, .long (lN (whM g P)), .retAddr 0, .int (nI a), .long (lN (wtM g p a P)), .retAddr 0, .int (lms (zm_tr hi) (zm_can hi W (nI g ||| nI a)) k), .int (zb_i (zb_any (zm_can hi W (nI g ||| nI a)) k)), .int (nI k)] [] (zq_SG N, hi, hl2, zq_HR ca cb cs) Q) fun k hk => ?_
        have k3 : (nI k < nI W) = True := eq_true ((nI_ltI (by omega) (by omega)).mpr hk)
        have hk7 : k < 7 := by omega
        rw [zr194_148]
        simp only [zr194_0, zr194_1, zr194_2, zr194_5, zr194_8, zr194_9, zr194_10, zr194_12, zr194_13, zr194_15, zr194_16, zr194_20, zr194_21, zr194_24, zr194_27, zr194_29, zr194_30, zr194_32, zr194_35, zr194_38, zr194_39, zr194_42, zr194_45, zr194_46, zr194_48, zr194_51, zr194_54, zr194_55, zr194_59, zr194_60, zr194_61, zr194_64, zr194_65, zr194_68, zr194_70, zr194_71, zr194_72, zr194_75, zr194_76, zr194_79, zr194_80, zr194_82, zr194_83, zr194_87, zr194_88, zr194_91, zr194_94, zr194_96, zr194_97, zr194_99, zr194_102, zr194_105, zr194_106, zr194_109, zr194_111, zr194_113, zr194_116, zr194_119, zr194_120, zr194_121, zr194_124, zr194_126, zr194_127, zr194_128, zr194_129, zr194_130, zr194_132, zr194_135, zr194_138, zr194_140, zr194_142, zr194_143, zr194_145, zr194_146, zr194_150, zr194_151, zr194_154, zr194_157, zr194_158, zr194_160, zr194_161, zr194_163, zr194_164, zr194_167, zr194_170, zr194_171, zr194_173, zr194_174, zr194_176, zr194_179, zr194_181, zr194_184, zr194_185, zr194_187, zr194_190, zr194_193, zr194_195, zr194_197, zr194_200, zr194_203, zr194_205, zr194_206, zr194_209, zr194_211, zr194_213, zr194_214, zr194_215, zr194_218, zr194_220, zr194_223, zr194_225, zr194_228, zr194_229, zr194_230, zr194_232, zr194_235, zr194_238, zr194_239, zr194_241, zr194_243, zr194_246, zs_m0 N, zs_m1 N, zs_m2 N, zh_m0 ca cb cs, zq_kill_int, zq_kill_ref, zq_kill_ret, zq_kill_null, zq_kill_long, zq_rf_some, zq_rf_none, true_and, and_true, true_implies, not_true_eq_false, not_false_eq_true, false_implies, Bool.true_eq_false, Bool.false_eq_true, nI_1, zb_i0, zb_i1, zb_i2, Option.toList_some, Option.toList_none, List.cons_append, List.nil_append, true_or, or_true, implies_true, zb_it, zb_if, zb_10, zb_00, zb_n5, zb_n2, zb_m1, zb_m3, zb_m9, or_true, true_or, or_false, false_or, w4, k3, k_M_canWith w4 w1 hk7, k_M_troubleOf hk7, lms, zb_any_s]
        cases zm_can hi W (nI g ||| nI a) k with
        | false => simp
        | true => by_cases q : zm_tr hi k < lms (zm_tr hi) (zm_can hi W (nI g ||| nI a)) k <;> simp [q, zb_i]
      have fW : (nI W < nI W) = False := eq_false (nI_nlt (Nat.le_refl _) (by omega))
      have ewo : wv hi W m (nI g ||| nI a) = nI (wo a) := by rw [← hwo]; exact (wv_nat hct _).2
      have b3 : wo a ≤ 20 := by rw [← hwo]; exact wN a
      have eu : upC g p P wo (a + 1) = upC g p P wo a + wtM g p a P * wo a := by
        rw [upC, wtM_eq]
        by_cases q : a &&& g = 0
        · rw [if_pos q, if_pos q]
        · rw [if_neg q, if_neg q, Nat.zero_mul, Nat.add_zero]
      have l0 : (0 : Int64) = lN 0 := rfl
      refine ⟨(.long (lN (wtM g p a P)), .retAddr 0, .int (lms (zm_tr hi) (zm_can hi W (nI g ||| nI a)) W), .int (zb_i (zb_any (zm_can hi W (nI g ||| nI a)) W)), .int (nI W)), ?_⟩
      have tail : zq_P (d + 4) 194 85 [.ref 60, .int (nI p), .int (zb_i m), .int (nI g), .long (lN (upC g p P wo a)), .retAddr 0, .long (lN (whM g P)), .retAddr 0, .int (nI a), .long (lN (wtM g p a 0)), .retAddr 0, .int (nI 0), v.2.2.2.1, v.2.2.2.2] [] (zq_SG N, hi, hl2, zq_HR ca cb cs) Q = zq_P (d + 4) 194 57 [.ref 60, .int (nI p), .int (zb_i m), .int (nI g), .long (lN (upC g p P wo (a + 1))), .retAddr 0, .long (lN (whM g P)), .retAddr 0, .int (nI (a + 1)), .long (lN (wtM g p a P)), .retAddr 0, .int (lms (zm_tr hi) (zm_can hi W (nI g ||| nI a)) W), .int (zb_i (zb_any (zm_can hi W (nI g ||| nI a)) W)), .int (nI W)] [] (zq_SG N, hi, hl2, zq_HR ca cb cs) Q := by
        refine Eq.trans (hin (v.2.2.2.1, v.2.2.2.2)) ?_
        rw [zr194_85]
        simp only [zr194_0, zr194_1, zr194_2, zr194_5, zr194_8, zr194_9, zr194_10, zr194_12, zr194_13, zr194_15, zr194_16, zr194_20, zr194_21, zr194_24, zr194_27, zr194_29, zr194_30, zr194_32, zr194_35, zr194_38, zr194_39, zr194_42, zr194_45, zr194_46, zr194_48, zr194_51, zr194_54, zr194_55, zr194_59, zr194_60, zr194_61, zr194_64, zr194_65, zr194_68, zr194_70, zr194_71, zr194_72, zr194_75, zr194_76, zr194_79, zr194_80, zr194_82, zr194_83, zr194_87, zr194_88, zr194_91, zr194_94, zr194_96, zr194_97, zr194_99, zr194_102, zr194_105, zr194_106, zr194_109, zr194_111, zr194_113, zr194_116, zr194_119, zr194_120, zr194_121, zr194_124, zr194_126, zr194_127, zr194_128, zr194_129, zr194_130, zr194_132, zr194_135, zr194_138, zr194_140, zr194_142, zr194_143, zr194_145, zr194_146, zr194_150, zr194_151, zr194_154, zr194_157, zr194_158, zr194_160, zr194_161, zr194_163, zr194_164, zr194_167, zr194_170, zr194_171, zr194_173, zr194_174, zr194_176, zr194_179, zr194_181, zr194_184, zr194_185, zr194_187, zr194_190, zr194_193, zr194_195, zr194_197, zr194_200, zr194_203, zr194_205, zr194_206, zr194_209, zr194_211, zr194_213, zr194_214, zr194_215, zr194_218, zr194_220, zr194_223, zr194_225, zr194_228, zr194_229, zr194_230, zr194_232, zr194_235, zr194_238, zr194_239, zr194_241, zr194_243, zr194_246, zs_m0 N, zs_m1 N, zs_m2 N, zh_m0 ca cb cs, zq_kill_int, zq_kill_ref, zq_kill_ret, zq_kill_null, zq_kill_long, zq_rf_some, zq_rf_none, true_and, and_true, true_implies, not_true_eq_false, not_false_eq_true, false_implies, Bool.true_eq_false, Bool.false_eq_true, nI_1, zb_i0, zb_i1, zb_i2, Option.toList_some, Option.toList_none, List.cons_append, List.nil_append, true_or, or_true, implies_true, zb_it, zb_if, zb_10, zb_00, zb_n5, zb_n2, zb_m1, zb_m3, zb_m9, or_true, true_or, or_false, false_or, w6, fP]
        refine Eq.trans hin2 ?_
        rw [zr194_148]
        simp only [zr194_0, zr194_1, zr194_2, zr194_5, zr194_8, zr194_9, zr194_10, zr194_12, zr194_13, zr194_15, zr194_16, zr194_20, zr194_21, zr194_24, zr194_27, zr194_29, zr194_30, zr194_32, zr194_35, zr194_38, zr194_39, zr194_42, zr194_45, zr194_46, zr194_48, zr194_51, zr194_54, zr194_55, zr194_59, zr194_60, zr194_61, zr194_64, zr194_65, zr194_68, zr194_70, zr194_71, zr194_72, zr194_75, zr194_76, zr194_79, zr194_80, zr194_82, zr194_83, zr194_87, zr194_88, zr194_91, zr194_94, zr194_96, zr194_97, zr194_99, zr194_102, zr194_105, zr194_106, zr194_109, zr194_111, zr194_113, zr194_116, zr194_119, zr194_120, zr194_121, zr194_124, zr194_126, zr194_127, zr194_128, zr194_129, zr194_130, zr194_132, zr194_135, zr194_138, zr194_140, zr194_142, zr194_143, zr194_145, zr194_146, zr194_150, zr194_151, zr194_154, zr194_157, zr194_158, zr194_160, zr194_161, zr194_163, zr194_164, zr194_167, zr194_170, zr194_171, zr194_173, zr194_174, zr194_176, zr194_179, zr194_181, zr194_184, zr194_185, zr194_187, zr194_190, zr194_193, zr194_195, zr194_197, zr194_200, zr194_203, zr194_205, zr194_206, zr194_209, zr194_211, zr194_213, zr194_214, zr194_215, zr194_218, zr194_220, zr194_223, zr194_225, zr194_228, zr194_229, zr194_230, zr194_232, zr194_235, zr194_238, zr194_239, zr194_241, zr194_243, zr194_246, zs_m0 N, zs_m1 N, zs_m2 N, zh_m0 ca cb cs, zq_kill_int, zq_kill_ref, zq_kill_ret, zq_kill_null, zq_kill_long, zq_rf_some, zq_rf_none, true_and, and_true, true_implies, not_true_eq_false, not_false_eq_true, false_implies, Bool.true_eq_false, Bool.false_eq_true, nI_1, zb_i0, zb_i1, zb_i2, Option.toList_some, Option.toList_none, List.cons_append, List.nil_append, true_or, or_true, implies_true, zb_it, zb_if, zb_10, zb_00, zb_n5, zb_n2, zb_m1, zb_m3, zb_m9, or_true, true_or, or_false, false_or, w4, fW]
        cases m with
        | true =>
          have ew2 : lms (zm_tr hi) (zm_can hi W (nI g ||| nI a)) W = nI (wo a) := by rw [← ewo]; rfl
          simp only [zq_kill_int, zq_kill_ref, zq_kill_ret, zq_kill_null, zq_kill_long, zq_rf_some, zq_rf_none, true_and, and_true, true_implies, not_true_eq_false, not_false_eq_true, false_implies, Bool.true_eq_false, Bool.false_eq_true, nI_1, zb_i0, zb_i1, zb_i2, Option.toList_some, Option.toList_none, List.cons_append, List.nil_append, true_or, or_true, implies_true, zr194_0, zr194_1, zr194_2, zr194_5, zr194_8, zr194_9, zr194_10, zr194_12, zr194_13, zr194_15, zr194_16, zr194_20, zr194_21, zr194_24, zr194_27, zr194_29, zr194_30, zr194_32, zr194_35, zr194_38, zr194_39, zr194_42, zr194_45, zr194_46, zr194_48, zr194_51, zr194_54, zr194_55, zr194_59, zr194_60, zr194_61, zr194_64, zr194_65, zr194_68, zr194_70, zr194_71, zr194_72, zr194_75, zr194_76, zr194_79, zr194_80, zr194_82, zr194_83, zr194_87, zr194_88, zr194_91, zr194_94, zr194_96, zr194_97, zr194_99, zr194_102, zr194_105, zr194_106, zr194_109, zr194_111, zr194_113, zr194_116, zr194_119, zr194_120, zr194_121, zr194_124, zr194_126, zr194_127, zr194_128, zr194_129, zr194_130, zr194_132, zr194_135, zr194_138, zr194_140, zr194_142, zr194_143, zr194_145, zr194_146, zr194_150, zr194_151, zr194_154, zr194_157, zr194_158, zr194_160, zr194_161, zr194_163, zr194_164, zr194_167, zr194_170, zr194_171, zr194_173, zr194_174, zr194_176, zr194_179, zr194_181, zr194_184, zr194_185, zr194_187, zr194_190, zr194_193, zr194_195, zr194_197, zr194_200, zr194_203, zr194_205, zr194_206, zr194_209, zr194_211, zr194_213, zr194_214, zr194_215, zr194_218, zr194_220, zr194_223, zr194_225, zr194_228, zr194_229, zr194_230, zr194_232, zr194_235, zr194_238, zr194_239, zr194_241, zr194_243, zr194_246, ew2, nI_l (show wo a < 2 ^ 31 by omega), lN_mul, lN_add, eu]
        | false =>
          have ew2 : zb_i (zb_any (zm_can hi W (nI g ||| nI a)) W) = nI (wo a) := by rw [← ewo]; rfl
          cases hz : zb_any (zm_can hi W (nI g ||| nI a)) W with
          | true =>
            rw [hz] at ew2
            have e5 : wo a = 1 := by
              have := (zb_eq (a := 1) (b := wo a) (by omega) (by omega)).mp ew2
              omega
            simp only [zq_kill_int, zq_kill_ref, zq_kill_ret, zq_kill_null, zq_kill_long, zq_rf_some, zq_rf_none, true_and, and_true, true_implies, not_true_eq_false, not_false_eq_true, false_implies, Bool.true_eq_false, Bool.false_eq_true, nI_1, zb_i0, zb_i1, zb_i2, Option.toList_some, Option.toList_none, List.cons_append, List.nil_append, true_or, or_true, implies_true, zr194_0, zr194_1, zr194_2, zr194_5, zr194_8, zr194_9, zr194_10, zr194_12, zr194_13, zr194_15, zr194_16, zr194_20, zr194_21, zr194_24, zr194_27, zr194_29, zr194_30, zr194_32, zr194_35, zr194_38, zr194_39, zr194_42, zr194_45, zr194_46, zr194_48, zr194_51, zr194_54, zr194_55, zr194_59, zr194_60, zr194_61, zr194_64, zr194_65, zr194_68, zr194_70, zr194_71, zr194_72, zr194_75, zr194_76, zr194_79, zr194_80, zr194_82, zr194_83, zr194_87, zr194_88, zr194_91, zr194_94, zr194_96, zr194_97, zr194_99, zr194_102, zr194_105, zr194_106, zr194_109, zr194_111, zr194_113, zr194_116, zr194_119, zr194_120, zr194_121, zr194_124, zr194_126, zr194_127, zr194_128, zr194_129, zr194_130, zr194_132, zr194_135, zr194_138, zr194_140, zr194_142, zr194_143, zr194_145, zr194_146, zr194_150, zr194_151, zr194_154, zr194_157, zr194_158, zr194_160, zr194_161, zr194_163, zr194_164, zr194_167, zr194_170, zr194_171, zr194_173, zr194_174, zr194_176, zr194_179, zr194_181, zr194_184, zr194_185, zr194_187, zr194_190, zr194_193, zr194_195, zr194_197, zr194_200, zr194_203, zr194_205, zr194_206, zr194_209, zr194_211, zr194_213, zr194_214, zr194_215, zr194_218, zr194_220, zr194_223, zr194_225, zr194_228, zr194_229, zr194_230, zr194_232, zr194_235, zr194_238, zr194_239, zr194_241, zr194_243, zr194_246, lN_add, eu, e5, Nat.mul_one]
          | false =>
            rw [hz] at ew2
            have e5 : wo a = 0 := by
              have := (zb_eq (a := 0) (b := wo a) (by omega) (by omega)).mp ew2
              omega
            simp only [zq_kill_int, zq_kill_ref, zq_kill_ret, zq_kill_null, zq_kill_long, zq_rf_some, zq_rf_none, true_and, and_true, true_implies, not_true_eq_false, not_false_eq_true, false_implies, Bool.true_eq_false, Bool.false_eq_true, nI_1, zb_i0, zb_i1, zb_i2, Option.toList_some, Option.toList_none, List.cons_append, List.nil_append, true_or, or_true, implies_true, zr194_0, zr194_1, zr194_2, zr194_5, zr194_8, zr194_9, zr194_10, zr194_12, zr194_13, zr194_15, zr194_16, zr194_20, zr194_21, zr194_24, zr194_27, zr194_29, zr194_30, zr194_32, zr194_35, zr194_38, zr194_39, zr194_42, zr194_45, zr194_46, zr194_48, zr194_51, zr194_54, zr194_55, zr194_59, zr194_60, zr194_61, zr194_64, zr194_65, zr194_68, zr194_70, zr194_71, zr194_72, zr194_75, zr194_76, zr194_79, zr194_80, zr194_82, zr194_83, zr194_87, zr194_88, zr194_91, zr194_94, zr194_96, zr194_97, zr194_99, zr194_102, zr194_105, zr194_106, zr194_109, zr194_111, zr194_113, zr194_116, zr194_119, zr194_120, zr194_121, zr194_124, zr194_126, zr194_127, zr194_128, zr194_129, zr194_130, zr194_132, zr194_135, zr194_138, zr194_140, zr194_142, zr194_143, zr194_145, zr194_146, zr194_150, zr194_151, zr194_154, zr194_157, zr194_158, zr194_160, zr194_161, zr194_163, zr194_164, zr194_167, zr194_170, zr194_171, zr194_173, zr194_174, zr194_176, zr194_179, zr194_181, zr194_184, zr194_185, zr194_187, zr194_190, zr194_193, zr194_195, zr194_197, zr194_200, zr194_203, zr194_205, zr194_206, zr194_209, zr194_211, zr194_213, zr194_214, zr194_215, zr194_218, zr194_220, zr194_223, zr194_225, zr194_228, zr194_229, zr194_230, zr194_232, zr194_235, zr194_238, zr194_239, zr194_241, zr194_243, zr194_246, l0, lN_add, eu, e5, Nat.mul_zero]
      rw [zr194_57]
      by_cases q : a &&& g = 0
      · have ea : ((nI a &&& nI g = 0) = True) := eq_true (e1.mpr q)
        have w0 : wtM g p a 0 = 1 := by rw [wtM, if_pos q]
        rw [w0] at tail
        simp only [zr194_0, zr194_1, zr194_2, zr194_5, zr194_8, zr194_9, zr194_10, zr194_12, zr194_13, zr194_15, zr194_16, zr194_20, zr194_21, zr194_24, zr194_27, zr194_29, zr194_30, zr194_32, zr194_35, zr194_38, zr194_39, zr194_42, zr194_45, zr194_46, zr194_48, zr194_51, zr194_54, zr194_55, zr194_59, zr194_60, zr194_61, zr194_64, zr194_65, zr194_68, zr194_70, zr194_71, zr194_72, zr194_75, zr194_76, zr194_79, zr194_80, zr194_82, zr194_83, zr194_87, zr194_88, zr194_91, zr194_94, zr194_96, zr194_97, zr194_99, zr194_102, zr194_105, zr194_106, zr194_109, zr194_111, zr194_113, zr194_116, zr194_119, zr194_120, zr194_121, zr194_124, zr194_126, zr194_127, zr194_128, zr194_129, zr194_130, zr194_132, zr194_135, zr194_138, zr194_140, zr194_142, zr194_143, zr194_145, zr194_146, zr194_150, zr194_151, zr194_154, zr194_157, zr194_158, zr194_160, zr194_161, zr194_163, zr194_164, zr194_167, zr194_170, zr194_171, zr194_173, zr194_174, zr194_176, zr194_179, zr194_181, zr194_184, zr194_185, zr194_187, zr194_190, zr194_193, zr194_195, zr194_197, zr194_200, zr194_203, zr194_205, zr194_206, zr194_209, zr194_211, zr194_213, zr194_214, zr194_215, zr194_218, zr194_220, zr194_223, zr194_225, zr194_228, zr194_229, zr194_230, zr194_232, zr194_235, zr194_238, zr194_239, zr194_241, zr194_243, zr194_246, zs_m0 N, zs_m1 N, zs_m2 N, zh_m0 ca cb cs, zq_kill_int, zq_kill_ref, zq_kill_ret, zq_kill_null, zq_kill_long, zq_rf_some, zq_rf_none, true_and, and_true, true_implies, not_true_eq_false, not_false_eq_true, false_implies, Bool.true_eq_false, Bool.false_eq_true, nI_1, zb_i0, zb_i1, zb_i2, Option.toList_some, Option.toList_none, List.cons_append, List.nil_append, true_or, or_true, implies_true, zb_it, zb_if, zb_10, zb_00, zb_n5, zb_n2, zb_m1, zb_m3, zb_m9, or_true, true_or, or_false, false_or, w6, zb_ev P w2, h3, ea]
        exact tail
      · have ea : ((nI a &&& nI g = 0) = False) := eq_false (fun z => q (e1.mp z))
        have w0 : wtM g p a 0 = 0 := by rw [wtM, if_neg q]
        rw [w0] at tail
        simp only [zr194_0, zr194_1, zr194_2, zr194_5, zr194_8, zr194_9, zr194_10, zr194_12, zr194_13, zr194_15, zr194_16, zr194_20, zr194_21, zr194_24, zr194_27, zr194_29, zr194_30, zr194_32, zr194_35, zr194_38, zr194_39, zr194_42, zr194_45, zr194_46, zr194_48, zr194_51, zr194_54, zr194_55, zr194_59, zr194_60, zr194_61, zr194_64, zr194_65, zr194_68, zr194_70, zr194_71, zr194_72, zr194_75, zr194_76, zr194_79, zr194_80, zr194_82, zr194_83, zr194_87, zr194_88, zr194_91, zr194_94, zr194_96, zr194_97, zr194_99, zr194_102, zr194_105, zr194_106, zr194_109, zr194_111, zr194_113, zr194_116, zr194_119, zr194_120, zr194_121, zr194_124, zr194_126, zr194_127, zr194_128, zr194_129, zr194_130, zr194_132, zr194_135, zr194_138, zr194_140, zr194_142, zr194_143, zr194_145, zr194_146, zr194_150, zr194_151, zr194_154, zr194_157, zr194_158, zr194_160, zr194_161, zr194_163, zr194_164, zr194_167, zr194_170, zr194_171, zr194_173, zr194_174, zr194_176, zr194_179, zr194_181, zr194_184, zr194_185, zr194_187, zr194_190, zr194_193, zr194_195, zr194_197, zr194_200, zr194_203, zr194_205, zr194_206, zr194_209, zr194_211, zr194_213, zr194_214, zr194_215, zr194_218, zr194_220, zr194_223, zr194_225, zr194_228, zr194_229, zr194_230, zr194_232, zr194_235, zr194_238, zr194_239, zr194_241, zr194_243, zr194_246, zs_m0 N, zs_m1 N, zs_m2 N, zh_m0 ca cb cs, zq_kill_int, zq_kill_ref, zq_kill_ret, zq_kill_null, zq_kill_long, zq_rf_some, zq_rf_none, true_and, and_true, true_implies, not_true_eq_false, not_false_eq_true, false_implies, Bool.true_eq_false, Bool.false_eq_true, nI_1, zb_i0, zb_i1, zb_i2, Option.toList_some, Option.toList_none, List.cons_append, List.nil_append, true_or, or_true, implies_true, zb_it, zb_if, zb_10, zb_00, zb_n5, zb_n2, zb_m1, zb_m3, zb_m9, or_true, true_or, or_false, false_or, w6, zb_ev P w2, h3, ea]
        exact tail
  have first := zq_loop (n := P) (f := fun k => zq_P (d + 4) 194 18 [.ref 60, .int (nI p), .int (zb_i m), .int (nI g), .long 0, .retAddr 0, .long (lN (whM g k)), .retAddr 0, .int (nI k), .retAddr 0, .retAddr 0, .retAddr 0, .retAddr 0, .retAddr 0] [] (zq_SG N, hi, hl2, zq_HR ca cb cs) Q) fun k hk => by
    have k3 : (nI k < nI P) = True := eq_true ((nI_ltI (by omega) (by omega)).mpr hk)
    rw [zr194_18]
    simp only [zr194_0, zr194_1, zr194_2, zr194_5, zr194_8, zr194_9, zr194_10, zr194_12, zr194_13, zr194_15, zr194_16, zr194_20, zr194_21, zr194_24, zr194_27, zr194_29, zr194_30, zr194_32, zr194_35, zr194_38, zr194_39, zr194_42, zr194_45, zr194_46, zr194_48, zr194_51, zr194_54, zr194_55, zr194_59, zr194_60, zr194_61, zr194_64, zr194_65, zr194_68, zr194_70, zr194_71, zr194_72, zr194_75, zr194_76, zr194_79, zr194_80, zr194_82, zr194_83, zr194_87, zr194_88, zr194_91, zr194_94, zr194_96, zr194_97, zr194_99, zr194_102, zr194_105, zr194_106, zr194_109, zr194_111, zr194_113, zr194_116, zr194_119, zr194_120, zr194_121, zr194_124, zr194_126, zr194_127, zr194_128, zr194_129, zr194_130, zr194_132, zr194_135, zr194_138, zr194_140, zr194_142, zr194_143, zr194_145, zr194_146, zr194_150, zr194_151, zr194_154, zr194_157, zr194_158, zr194_160, zr194_161, zr194_163, zr194_164, zr194_167, zr194_170, zr194_171, zr194_173, zr194_174, zr194_176, zr194_179, zr194_181, zr194_184, zr194_185, zr194_187, zr194_190, zr194_193, zr194_195, zr194_197, zr194_200, zr194_203, zr194_205, zr194_206, zr194_209, zr194_211, zr194_213, zr194_214, zr194_215, zr194_218, zr194_220, zr194_223, zr194_225, zr194_228, zr194_229, zr194_230, zr194_232, zr194_235, zr194_238, zr194_239, zr194_241, zr194_243, zr194_246, zs_m0 N, zs_m1 N, zs_m2 N, zh_m0 ca cb cs, zq_kill_int, zq_kill_ref, zq_kill_ret, zq_kill_null, zq_kill_long, zq_rf_some, zq_rf_none, true_and, and_true, true_implies, not_true_eq_false, not_false_eq_true, false_implies, Bool.true_eq_false, Bool.false_eq_true, nI_1, zb_i0, zb_i1, zb_i2, Option.toList_some, Option.toList_none, List.cons_append, List.nil_append, true_or, or_true, implies_true, zb_it, zb_if, zb_10, zb_00, zb_n5, zb_n2, zb_m1, zb_m3, zb_m9, or_true, true_or, or_false, false_or, w6, k3, k_M_has (show g < 8 by omega) (show k < 3 by omega), whM]
    by_cases q1 : g / 2 ^ k % 2 = 0
    · simp [q1, l12, lN_mul]
    · simp [q1]
  simp only [zr194_0, zr194_1, zr194_2, zr194_5, zr194_8, zr194_9, zr194_10, zr194_12, zr194_13, zr194_15, zr194_16, zr194_20, zr194_21, zr194_24, zr194_27, zr194_29, zr194_30, zr194_32, zr194_35, zr194_38, zr194_39, zr194_42, zr194_45, zr194_46, zr194_48, zr194_51, zr194_54, zr194_55, zr194_59, zr194_60, zr194_61, zr194_64, zr194_65, zr194_68, zr194_70, zr194_71, zr194_72, zr194_75, zr194_76, zr194_79, zr194_80, zr194_82, zr194_83, zr194_87, zr194_88, zr194_91, zr194_94, zr194_96, zr194_97, zr194_99, zr194_102, zr194_105, zr194_106, zr194_109, zr194_111, zr194_113, zr194_116, zr194_119, zr194_120, zr194_121, zr194_124, zr194_126, zr194_127, zr194_128, zr194_129, zr194_130, zr194_132, zr194_135, zr194_138, zr194_140, zr194_142, zr194_143, zr194_145, zr194_146, zr194_150, zr194_151, zr194_154, zr194_157, zr194_158, zr194_160, zr194_161, zr194_163, zr194_164, zr194_167, zr194_170, zr194_171, zr194_173, zr194_174, zr194_176, zr194_179, zr194_181, zr194_184, zr194_185, zr194_187, zr194_190, zr194_193, zr194_195, zr194_197, zr194_200, zr194_203, zr194_205, zr194_206, zr194_209, zr194_211, zr194_213, zr194_214, zr194_215, zr194_218, zr194_220, zr194_223, zr194_225, zr194_228, zr194_229, zr194_230, zr194_232, zr194_235, zr194_238, zr194_239, zr194_241, zr194_243, zr194_246, zs_m0 N, zs_m1 N, zs_m2 N, zh_m0 ca cb cs, zq_kill_int, zq_kill_ref, zq_kill_ret, zq_kill_null, zq_kill_long, zq_rf_some, zq_rf_none, true_and, and_true, true_implies, not_true_eq_false, not_false_eq_true, false_implies, Bool.true_eq_false, Bool.false_eq_true, nI_1, zb_i0, zb_i1, zb_i2, Option.toList_some, Option.toList_none, List.cons_append, List.nil_append, true_or, or_true, implies_true, zb_it, zb_if, zb_10, zb_00, zb_n5, zb_n2, zb_m1, zb_m3, zb_m9, or_true, true_or, or_false, false_or, k_M_awayOn w6 w2 (sm_nz hct), hg]
  refine Eq.trans first ?_
  rw [zr194_18]
  simp only [zr194_0, zr194_1, zr194_2, zr194_5, zr194_8, zr194_9, zr194_10, zr194_12, zr194_13, zr194_15, zr194_16, zr194_20, zr194_21, zr194_24, zr194_27, zr194_29, zr194_30, zr194_32, zr194_35, zr194_38, zr194_39, zr194_42, zr194_45, zr194_46, zr194_48, zr194_51, zr194_54, zr194_55, zr194_59, zr194_60, zr194_61, zr194_64, zr194_65, zr194_68, zr194_70, zr194_71, zr194_72, zr194_75, zr194_76, zr194_79, zr194_80, zr194_82, zr194_83, zr194_87, zr194_88, zr194_91, zr194_94, zr194_96, zr194_97, zr194_99, zr194_102, zr194_105, zr194_106, zr194_109, zr194_111, zr194_113, zr194_116, zr194_119, zr194_120, zr194_121, zr194_124, zr194_126, zr194_127, zr194_128, zr194_129, zr194_130, zr194_132, zr194_135, zr194_138, zr194_140, zr194_142, zr194_143, zr194_145, zr194_146, zr194_150, zr194_151, zr194_154, zr194_157, zr194_158, zr194_160, zr194_161, zr194_163, zr194_164, zr194_167, zr194_170, zr194_171, zr194_173, zr194_174, zr194_176, zr194_179, zr194_181, zr194_184, zr194_185, zr194_187, zr194_190, zr194_193, zr194_195, zr194_197, zr194_200, zr194_203, zr194_205, zr194_206, zr194_209, zr194_211, zr194_213, zr194_214, zr194_215, zr194_218, zr194_220, zr194_223, zr194_225, zr194_228, zr194_229, zr194_230, zr194_232, zr194_235, zr194_238, zr194_239, zr194_241, zr194_243, zr194_246, zs_m0 N, zs_m1 N, zs_m2 N, zh_m0 ca cb cs, zq_kill_int, zq_kill_ref, zq_kill_ret, zq_kill_null, zq_kill_long, zq_rf_some, zq_rf_none, true_and, and_true, true_implies, not_true_eq_false, not_false_eq_true, false_implies, Bool.true_eq_false, Bool.false_eq_true, nI_1, zb_i0, zb_i1, zb_i2, Option.toList_some, Option.toList_none, List.cons_append, List.nil_append, true_or, or_true, implies_true, zb_it, zb_if, zb_10, zb_00, zb_n5, zb_n2, zb_m1, zb_m3, zb_m9, or_true, true_or, or_false, false_or, w6, fP]
  exact outer (.retAddr 0, .retAddr 0, .retAddr 0, .retAddr 0, .retAddr 0)
end Z46
theorem p_odds {N : Nat} {x : Int32} : zq_pair N 92 193 [.ref 0, .int x] [.ref 60, .int x] := by
  intro hi hl ca cb cs W P D h
  have hca := h.court
  have hc := zq_Ct_ok (N := N) (ca := ca) (cb := cb) (cs := cs) h.court
  obtain ⟨⟨w1, w2, w3, w4, w5, w6, -⟩, -, wa⟩ := id h.2.2.2.2.2.1
  by_cases hx : ¬ x < 0 ∧ ¬ 12 < x
  · have hin : zm_in x 0 12 = true := by unfold zm_in; rw [decide_eq_true_eq]; exact hx
    by_cases hW0 : W = 0
    · have e0 : (nI W = 0) = True := eq_true (by rw [hW0]; rfl)
      refine ⟨.int (-4), hi, hl, ca, cb, cs, hi, hl, W, P, D, fun Q => ?_, fun Q => ?_, h⟩
      · simp only [zr92_0, zr92_1, zr92_4, zr92_5, zr92_7, zr92_10, zr92_11, zr92_12, zr92_13, zr92_16, zr92_19, zr92_22, zr92_24, zr92_25, zr92_26, zr92_27, zr92_28, zr92_31, zr92_32, zs_x0 N, zh_x0 ca cb cs, hc.1, zq_kill_int, zq_kill_ref, zq_kill_ret, zq_kill_null, zq_kill_long, zq_rf_some, zq_rf_none, true_and, and_true, true_implies, not_true_eq_false, not_false_eq_true, false_implies, Bool.true_eq_false, Bool.false_eq_true, nI_1, zb_i0, zb_i1, zb_i2, Option.toList_some, Option.toList_none, List.cons_append, List.nil_append, true_or, or_true, implies_true, zb_it, zb_if, zb_10, zb_00, zb_n5, zb_n2, zb_m1, zb_m3, zb_m9, or_true, true_or, or_false, false_or, hx, w3, e0]
      · simp only [zr193_0, zr193_1, zr193_2, zr193_4, zr193_7, zr193_10, zr193_11, zr193_12, zr193_13, zr193_16, zr193_19, zr193_21, zr193_24, zr193_25, zr193_26, zr193_27, zr193_30, zs_m0 N, zs_m1 N, zs_m2 N, zh_m0 ca cb cs, zq_kill_int, zq_kill_ref, zq_kill_ret, zq_kill_null, zq_kill_long, zq_rf_some, zq_rf_none, true_and, and_true, true_implies, not_true_eq_false, not_false_eq_true, false_implies, Bool.true_eq_false, Bool.false_eq_true, nI_1, zb_i0, zb_i1, zb_i2, Option.toList_some, Option.toList_none, List.cons_append, List.nil_append, true_or, or_true, implies_true, zb_it, zb_if, zb_10, zb_00, zb_n5, zb_n2, zb_m1, zb_m3, zb_m9, or_true, true_or, or_false, false_or, k_M_in, hin, w4, e0]
    · have e0 : (nI W = 0) = False := eq_false (nI_ne0 (by omega) (by omega))
      obtain ⟨p, hp, rfl⟩ := nI_of2 (x := x) (M := 12) (n := 12) (by decide) hx.1 (Int32.not_lt.mp hx.2)
      obtain ⟨g1, g2⟩ := zb_setN (p := zm_away hi (hi 60 25)) (W := P) (by omega)
      have kc := fun Q => k_EF_tellMean (N := N) (d := 53) (Q := Q) (m := false) h hp g1 g2
      have km := fun Q => k_M_sums (N := N) (d := 53) (Q := Q) (m := false) (hl2 := tlc hl (upC (zb_num (zm_away hi (hi 60 25)) P) p P (fun a => (wv hi W false (nI (zb_num (zm_away hi (hi 60 25)) P) ||| nI a)).toNatClampNeg) (2 ^ P)) (whM (zb_num (zm_away hi (hi 60 25)) P) P)) h hp g1 g2
      rw [zb_if] at kc km
      generalize upC (zb_num (zm_away hi (hi 60 25)) P) p P (fun a => (wv hi W false (nI (zb_num (zm_away hi (hi 60 25)) P) ||| nI a)).toNatClampNeg) (2 ^ P) = u at kc km
      generalize whM (zb_num (zm_away hi (hi 60 25)) P) P = l at kc km
      refine ⟨.int 1, hi, tlc hl u l, ca, cb, cs, hi, tlm (tlc hl u l) u l, W, P, D, fun Q => ?_, fun Q => ?_, ?_⟩
      · simp only [zr92_0, zr92_1, zr92_4, zr92_5, zr92_7, zr92_10, zr92_11, zr92_12, zr92_13, zr92_16, zr92_19, zr92_22, zr92_24, zr92_25, zr92_26, zr92_27, zr92_28, zr92_31, zr92_32, zs_x0 N, zh_x0 ca cb cs, hc.1, zq_kill_int, zq_kill_ref, zq_kill_ret, zq_kill_null, zq_kill_long, zq_rf_some, zq_rf_none, true_and, and_true, true_implies, not_true_eq_false, not_false_eq_true, false_implies, Bool.true_eq_false, Bool.false_eq_true, nI_1, zb_i0, zb_i1, zb_i2, Option.toList_some, Option.toList_none, List.cons_append, List.nil_append, true_or, or_true, implies_true, zb_it, zb_if, zb_10, zb_00, zb_n5, zb_n2, zb_m1, zb_m3, zb_m9, or_true, true_or, or_false, false_or, hx, w3, e0, kc]
      · simp only [zr193_0, zr193_1, zr193_2, zr193_4, zr193_7, zr193_10, zr193_11, zr193_12, zr193_13, zr193_16, zr193_19, zr193_21, zr193_24, zr193_25, zr193_26, zr193_27, zr193_30, zs_m0 N, zs_m1 N, zs_m2 N, zh_m0 ca cb cs, zq_kill_int, zq_kill_ref, zq_kill_ret, zq_kill_null, zq_kill_long, zq_rf_some, zq_rf_none, true_and, and_true, true_implies, not_true_eq_false, not_false_eq_true, false_implies, Bool.true_eq_false, Bool.false_eq_true, nI_1, zb_i0, zb_i1, zb_i2, Option.toList_some, Option.toList_none, List.cons_append, List.nil_append, true_or, or_true, implies_true, zb_it, zb_if, zb_10, zb_00, zb_n5, zb_n2, zb_m1, zb_m3, zb_m9, or_true, true_or, or_false, false_or, k_M_in, hin, w4, e0, km]
      · obtain ⟨s1, s2, ⟨t1, -, -, t4, t5⟩, s4⟩ := h
        exact ⟨s1, s2, ⟨t1, tl_both.1, tl_both.2, t4, t5⟩, s4⟩
  · refine ⟨.int (-1), hi, hl, ca, cb, cs, hi, hl, W, P, D, fun Q => ?_, fun Q => ?_, h⟩
    · simp only [zr92_0, zr92_1, zr92_4, zr92_5, zr92_7, zr92_10, zr92_11, zr92_12, zr92_13, zr92_16, zr92_19, zr92_22, zr92_24, zr92_25, zr92_26, zr92_27, zr92_28, zr92_31, zr92_32, zs_x0 N, zh_x0 ca cb cs, zq_kill_int, zq_kill_ref, zq_kill_ret, zq_kill_null, zq_kill_long, zq_rf_some, zq_rf_none, true_and, and_true, true_implies, not_true_eq_false, not_false_eq_true, false_implies, Bool.true_eq_false, Bool.false_eq_true, nI_1, zb_i0, zb_i1, zb_i2, Option.toList_some, Option.toList_none, List.cons_append, List.nil_append, true_or, or_true, implies_true, zb_it, zb_if, zb_10, zb_00, zb_n5, zb_n2, zb_m1, zb_m3, zb_m9, or_true, true_or, or_false, false_or]
      by_cases q1 : x < 0
      · simp [q1]
      · by_cases q2 : 12 < x
        · simp [q1, q2]
        · exact absurd ⟨q1, q2⟩ hx
    · simp only [zr193_0, zr193_1, zr193_2, zr193_4, zr193_7, zr193_10, zr193_11, zr193_12, zr193_13, zr193_16, zr193_19, zr193_21, zr193_24, zr193_25, zr193_26, zr193_27, zr193_30, zs_m0 N, zs_m1 N, zs_m2 N, zh_m0 ca cb cs, zq_kill_int, zq_kill_ref, zq_kill_ret, zq_kill_null, zq_kill_long, zq_rf_some, zq_rf_none, true_and, and_true, true_implies, not_true_eq_false, not_false_eq_true, false_implies, Bool.true_eq_false, Bool.false_eq_true, nI_1, zb_i0, zb_i1, zb_i2, Option.toList_some, Option.toList_none, List.cons_append, List.nil_append, true_or, or_true, implies_true, zb_it, zb_if, zb_10, zb_00, zb_n5, zb_n2, zb_m1, zb_m3, zb_m9, or_true, true_or, or_false, false_or, k_M_in, zm_in, hx, decide_false]
theorem p_mid {N : Nat} {x : Int32} : zq_pair N 96 195 [.ref 0, .int x] [.ref 60, .int x] := by
  intro hi hl ca cb cs W P D h
  have hca := h.court
  have hc := zq_Ct_ok (N := N) (ca := ca) (cb := cb) (cs := cs) h.court
  obtain ⟨⟨w1, w2, w3, w4, w5, w6, -⟩, -, wa⟩ := id h.2.2.2.2.2.1
  by_cases hx : ¬ x < 0 ∧ ¬ 12 < x
  · have hin : zm_in x 0 12 = true := by unfold zm_in; rw [decide_eq_true_eq]; exact hx
    by_cases hW0 : W = 0
    · have e0 : (nI W = 0) = True := eq_true (by rw [hW0]; rfl)
      refine ⟨.int (-4), hi, hl, ca, cb, cs, hi, hl, W, P, D, fun Q => ?_, fun Q => ?_, h⟩
      · simp only [zr96_0, zr96_1, zr96_4, zr96_5, zr96_7, zr96_10, zr96_11, zr96_12, zr96_13, zr96_16, zr96_19, zr96_22, zr96_24, zr96_25, zr96_26, zr96_27, zr96_28, zr96_31, zr96_32, zs_x0 N, zh_x0 ca cb cs, hc.1, zq_kill_int, zq_kill_ref, zq_kill_ret, zq_kill_null, zq_kill_long, zq_rf_some, zq_rf_none, true_and, and_true, true_implies, not_true_eq_false, not_false_eq_true, false_implies, Bool.true_eq_false, Bool.false_eq_true, nI_1, zb_i0, zb_i1, zb_i2, Option.toList_some, Option.toList_none, List.cons_append, List.nil_append, true_or, or_true, implies_true, zb_it, zb_if, zb_10, zb_00, zb_n5, zb_n2, zb_m1, zb_m3, zb_m9, or_true, true_or, or_false, false_or, hx, w3, e0]
      · simp only [zr195_0, zr195_1, zr195_2, zr195_4, zr195_7, zr195_10, zr195_11, zr195_12, zr195_13, zr195_16, zr195_19, zr195_21, zr195_24, zr195_25, zr195_26, zr195_27, zr195_30, zs_m0 N, zs_m1 N, zs_m2 N, zh_m0 ca cb cs, zq_kill_int, zq_kill_ref, zq_kill_ret, zq_kill_null, zq_kill_long, zq_rf_some, zq_rf_none, true_and, and_true, true_implies, not_true_eq_false, not_false_eq_true, false_implies, Bool.true_eq_false, Bool.false_eq_true, nI_1, zb_i0, zb_i1, zb_i2, Option.toList_some, Option.toList_none, List.cons_append, List.nil_append, true_or, or_true, implies_true, zb_it, zb_if, zb_10, zb_00, zb_n5, zb_n2, zb_m1, zb_m3, zb_m9, or_true, true_or, or_false, false_or, k_M_in, hin, w4, e0]
    · have e0 : (nI W = 0) = False := eq_false (nI_ne0 (by omega) (by omega))
      obtain ⟨p, hp, rfl⟩ := nI_of2 (x := x) (M := 12) (n := 12) (by decide) hx.1 (Int32.not_lt.mp hx.2)
      obtain ⟨g1, g2⟩ := zb_setN (p := zm_away hi (hi 60 25)) (W := P) (by omega)
      have kc := fun Q => k_EF_tellMean (N := N) (d := 53) (Q := Q) (m := true) h hp g1 g2
      have km := fun Q => k_M_sums (N := N) (d := 53) (Q := Q) (m := true) (hl2 := tlc hl (upC (zb_num (zm_away hi (hi 60 25)) P) p P (fun a => (wv hi W true (nI (zb_num (zm_away hi (hi 60 25)) P) ||| nI a)).toNatClampNeg) (2 ^ P)) (whM (zb_num (zm_away hi (hi 60 25)) P) P)) h hp g1 g2
      rw [zb_it] at kc km
      generalize upC (zb_num (zm_away hi (hi 60 25)) P) p P (fun a => (wv hi W true (nI (zb_num (zm_away hi (hi 60 25)) P) ||| nI a)).toNatClampNeg) (2 ^ P) = u at kc km
      generalize whM (zb_num (zm_away hi (hi 60 25)) P) P = l at kc km
      refine ⟨.int 1, hi, tlc hl u l, ca, cb, cs, hi, tlm (tlc hl u l) u l, W, P, D, fun Q => ?_, fun Q => ?_, ?_⟩
      · simp only [zr96_0, zr96_1, zr96_4, zr96_5, zr96_7, zr96_10, zr96_11, zr96_12, zr96_13, zr96_16, zr96_19, zr96_22, zr96_24, zr96_25, zr96_26, zr96_27, zr96_28, zr96_31, zr96_32, zs_x0 N, zh_x0 ca cb cs, hc.1, zq_kill_int, zq_kill_ref, zq_kill_ret, zq_kill_null, zq_kill_long, zq_rf_some, zq_rf_none, true_and, and_true, true_implies, not_true_eq_false, not_false_eq_true, false_implies, Bool.true_eq_false, Bool.false_eq_true, nI_1, zb_i0, zb_i1, zb_i2, Option.toList_some, Option.toList_none, List.cons_append, List.nil_append, true_or, or_true, implies_true, zb_it, zb_if, zb_10, zb_00, zb_n5, zb_n2, zb_m1, zb_m3, zb_m9, or_true, true_or, or_false, false_or, hx, w3, e0, kc]
      · simp only [zr195_0, zr195_1, zr195_2, zr195_4, zr195_7, zr195_10, zr195_11, zr195_12, zr195_13, zr195_16, zr195_19, zr195_21, zr195_24, zr195_25, zr195_26, zr195_27, zr195_30, zs_m0 N, zs_m1 N, zs_m2 N, zh_m0 ca cb cs, zq_kill_int, zq_kill_ref, zq_kill_ret, zq_kill_null, zq_kill_long, zq_rf_some, zq_rf_none, true_and, and_true, true_implies, not_true_eq_false, not_false_eq_true, false_implies, Bool.true_eq_false, Bool.false_eq_true, nI_1, zb_i0, zb_i1, zb_i2, Option.toList_some, Option.toList_none, List.cons_append, List.nil_append, true_or, or_true, implies_true, zb_it, zb_if, zb_10, zb_00, zb_n5, zb_n2, zb_m1, zb_m3, zb_m9, or_true, true_or, or_false, false_or, k_M_in, hin, w4, e0, km]
      · obtain ⟨s1, s2, ⟨t1, -, -, t4, t5⟩, s4⟩ := h
        exact ⟨s1, s2, ⟨t1, tl_both.1, tl_both.2, t4, t5⟩, s4⟩
  · refine ⟨.int (-1), hi, hl, ca, cb, cs, hi, hl, W, P, D, fun Q => ?_, fun Q => ?_, h⟩
    · simp only [zr96_0, zr96_1, zr96_4, zr96_5, zr96_7, zr96_10, zr96_11, zr96_12, zr96_13, zr96_16, zr96_19, zr96_22, zr96_24, zr96_25, zr96_26, zr96_27, zr96_28, zr96_31, zr96_32, zs_x0 N, zh_x0 ca cb cs, zq_kill_int, zq_kill_ref, zq_kill_ret, zq_kill_null, zq_kill_long, zq_rf_some, zq_rf_none, true_and, and_true, true_implies, not_true_eq_false, not_false_eq_true, false_implies, Bool.true_eq_false, Bool.false_eq_true, nI_1, zb_i0, zb_i1, zb_i2, Option.toList_some, Option.toList_none, List.cons_append, List.nil_append, true_or, or_true, implies_true, zb_it, zb_if, zb_10, zb_00, zb_n5, zb_n2, zb_m1, zb_m3, zb_m9, or_true, true_or, or_false, false_or]
      by_cases q1 : x < 0
      · simp [q1]
      · by_cases q2 : 12 < x
        · simp [q1, q2]
        · exact absurd ⟨q1, q2⟩ hx
    · simp only [zr195_0, zr195_1, zr195_2, zr195_4, zr195_7, zr195_10, zr195_11, zr195_12, zr195_13, zr195_16, zr195_19, zr195_21, zr195_24, zr195_25, zr195_26, zr195_27, zr195_30, zs_m0 N, zs_m1 N, zs_m2 N, zh_m0 ca cb cs, zq_kill_int, zq_kill_ref, zq_kill_ret, zq_kill_null, zq_kill_long, zq_rf_some, zq_rf_none, true_and, and_true, true_implies, not_true_eq_false, not_false_eq_true, false_implies, Bool.true_eq_false, Bool.false_eq_true, nI_1, zb_i0, zb_i1, zb_i2, Option.toList_some, Option.toList_none, List.cons_append, List.nil_append, true_or, or_true, implies_true, zb_it, zb_if, zb_10, zb_00, zb_n5, zb_n2, zb_m1, zb_m3, zb_m9, or_true, true_or, or_false, false_or, k_M_in, zm_in, hx, decide_false]
