/-! The small language: what a text tells; the class reads it -/
def bya (f : Nat → Int32) (n i : Nat) : Int32 := if i < n then f i else 1000
def sk (f : Nat → Int32) (n : Nat) : Nat → Nat → Nat
  | 0, i => i
  | m + 1, i => if i < n ∧ f i = 32 then sk f n m (i + 1) else i
abbrev skp (f : Nat → Int32) (n i : Nat) : Nat := sk f n 60 i
theorem sk_s (f : Nat → Int32) (n m i : Nat) : sk f n (m + 1) i = if i < n ∧ f i = 32 then sk f n m (i + 1) else i := rfl
theorem sk_le {f : Nat → Int32} {n : Nat} : ∀ m i, i ≤ n → sk f n m i ≤ n := by
  intro m
  induction m with
  | zero => intro i h; exact h
  | succ m ih =>
    intro i h
    rw [sk_s]
    split
    · exact ih _ (by omega)
    · exact h
/-- a figure -/
def fgv (f : Nat → Int32) (n i h : Nat) : Option Nat := if i < n ∧ ¬ f i - 48 < 0 ∧ ¬ nI h < f i - 48 then some (f i - 48).toNatClampNeg else none
theorem fgv_some {f : Nat → Int32} {n i h v : Nat} (hh : h ≤ 9) (e : fgv f n i h = some v) : i < n ∧ v ≤ h ∧ f i - 48 = nI v := by
  unfold fgv at e
  split at e
  · rename_i q
    obtain ⟨q1, q2, q3⟩ := q
    obtain ⟨j, hj, e2⟩ := nI_of q2
    rw [e2, zb_cl (by omega)] at e
    have e3 : j = v := Option.some.inj e
    subst e3
    rw [e2] at q3
    refine ⟨q1, ?_, e2⟩
    have hle : ¬ h < j := fun q => q3 ((nI_ltI (a := h) (b := j) (by omega) (by omega)).mpr q)
    omega
  · cases e
/-- a letter of a kind -/
def kb (x : Int32) : Option Nat := if x = 119 then some 0 else if x = 114 then some 1 else if x = 109 then some 2 else if x = 103 then some 3 else if x = 112 then some 4 else if x = 108 then some 5 else none
theorem kb_le {x : Int32} {k : Nat} (h : kb x = some k) : k ≤ 5 := by
  unfold kb at h
  repeat' split at h
  all_goals first | (cases h; omega) | cases h
abbrev rdT : Type := Nat × (Nat → Nat) × (Nat → Nat)
abbrev wyT : Type := Nat × (Nat → Nat) × (Nat → Nat) × (Nat → Nat)
def ppl (f : Nat → Int32) (n : Nat) : Nat → Nat → rdT → Nat ⊕ (Nat × rdT)
  | 0, i, s => .inr (i, s)
  | m + 1, i, s => if i < n ∧ f i = 111 then (match fgv f n (i + 1) 7 with
      | none => .inl (i + 1)
      | some r => if r < 2 then .inl (i + 1) else (match fgv f n (i + 2) (r - 1) with
        | none => .inl (i + 2)
        | some t => ppl f n m (skp f n (i + 3)) (s.1 + 1, upn s.2.1 s.1 r, upn s.2.2 s.1 t))) else .inr (i, s)
def wys (f : Nat → Int32) (n P : Nat) : Nat → Nat → wyT → Nat ⊕ (Nat × wyT)
  | 0, i, s => .inr (i, s)
  | m + 1, i, s => if i < n then (match kb (f i) with
      | none => .inl i
      | some k => (match fgv f n (i + 1) 9 with
        | none => .inl (i + 1)
        | some t => (match fgv f n (i + 2) (2 ^ P - 1) with
          | none => .inl (i + 2)
          | some q => wys f n P m (skp f n (i + 3)) (s.1 + 1, upn s.2.1 s.1 k, upn s.2.2.1 s.1 t, upn s.2.2.2 s.1 q)))) else .inr (i, s)
/-- all that a text tells: a fault, or rest, people, ways -/
def rdc (f : Nat → Int32) (n : Nat) : Nat ⊕ (Nat × rdT × wyT) :=
  if skp f n 0 < n ∧ f (skp f n 0) = 107 then (match fgv f n (skp f n 0 + 1) 6 with
    | none => .inl (skp f n 0 + 1)
    | some r => (match ppl f n 3 (skp f n (skp f n 0 + 2)) (0, fun _ => 0, fun _ => 0) with
      | .inl p => .inl p
      | .inr (i, s) => (match wys f n s.1 7 i (0, fun _ => 0, fun _ => 0, fun _ => 0) with
        | .inl p => .inl p
        | .inr (j, w) => if j < n ∨ w.1 = 0 then .inl j else .inr (r, s, w)))) else .inl (skp f n 0)
/-- what holds of what is read -/
def pok (s : rdT) : Prop := ∀ k, k < s.1 → 2 ≤ s.2.1 k ∧ s.2.1 k ≤ 7
def wok (P : Nat) (s : wyT) : Prop := ∀ w, w < s.1 → s.2.1 w ≤ 5 ∧ s.2.2.1 w ≤ 9 ∧ s.2.2.2 w < 2 ^ P
theorem upn_all {π : Nat → Nat} {k v : Nat} {p : Nat → Prop} (h : ∀ j, j < k → p (π j)) (hv : p v) : ∀ j, j < k + 1 → p (upn π k v j) := by
  intro j hj
  by_cases e : j = k
  · subst e; rw [upn_eq]; exact hv
  · rw [upn_ne e]; exact h j (by omega)
section Z60
variable {N ca cb cs c a p d n i h : Nat} {C C2 : zq_I} {f : Nat → Int32} {hl : zq_J} {S : zq_S} {hr : zq_O} {Q : Option Value → zq_G → Prop} {x : Int32}
theorem k_Strip_byteAt (hsp : zq_Sp S hr a p 60) (e : C a 1 = nI n) (hn : n ≤ 60) (hf : C p = f) (hi : i ≤ 1000) : zq_P (d + 1) 29 0 [.ref a, .int (nI i)] [] (S, C, hl, hr) Q = Q (some (.int (bya f n i))) (S, C, hl, hr) := by
  unfold zq_Sp at hsp
  have q0 : (nI i < 0) = False := eq_false (nI_pos (by omega))
  unfold bya
  by_cases q : i < n
  · have q1 : (nI i < nI n) = True := eq_true ((nI_ltI (by omega) (by omega)).mpr q)
    have x1 : zq_xS (nI i) 60 := zb_x (by omega) (by omega)
    have x2 : (nI i).toNatClampNeg = i := zb_cl (by omega)
    rw [if_pos q]
    simp only [zr29_0, zr29_1, zr29_2, zr29_5, zr29_8, zr29_9, zr29_12, zr29_13, zr29_14, zr29_17, zr29_20, zr16_0, zr16_1, zr16_4, zr16_5, zr16_6, zr16_9, zr16_12, zr16_13, zr16_16, zr16_17, hsp, zq_kill_int, zq_kill_ref, zq_kill_ret, zq_kill_null, zq_kill_long, zq_rf_some, zq_rf_none, true_and, and_true, true_implies, not_true_eq_false, not_false_eq_true, false_implies, Bool.true_eq_false, Bool.false_eq_true, nI_1, zb_i0, zb_i1, zb_i2, Option.toList_some, Option.toList_none, List.cons_append, List.nil_append, true_or, or_true, implies_true, zb_it, zb_if, zb_10, zb_00, zb_n5, zb_n2, zb_m1, zb_m3, zb_m9, or_true, true_or, or_false, false_or, e, q0, q1, x1, x2, hf]
  · have q1 : (nI i < nI n) = False := eq_false (nI_nlt (by omega) (by omega))
    rw [if_neg q]
    simp only [zr29_0, zr29_1, zr29_2, zr29_5, zr29_8, zr29_9, zr29_12, zr29_13, zr29_14, zr29_17, zr29_20, zr16_0, zr16_1, zr16_4, zr16_5, zr16_6, zr16_9, zr16_12, zr16_13, zr16_16, zr16_17, hsp, zq_kill_int, zq_kill_ref, zq_kill_ret, zq_kill_null, zq_kill_long, zq_rf_some, zq_rf_none, true_and, and_true, true_implies, not_true_eq_false, not_false_eq_true, false_implies, Bool.true_eq_false, Bool.false_eq_true, nI_1, zb_i0, zb_i1, zb_i2, Option.toList_some, Option.toList_none, List.cons_append, List.nil_append, true_or, or_true, implies_true, zb_it, zb_if, zb_10, zb_00, zb_n5, zb_n2, zb_m1, zb_m3, zb_m9, or_true, true_or, or_false, false_or, e, q0, q1]
theorem bya_in {y : Int32} (hy : y ≠ 1000) : (bya f n i = y) = (i < n ∧ f i = y) := by
  unfold bya
  by_cases q : i < n
  · rw [if_pos q]; simp [q]
  · rw [if_neg q]
    refine (eq_false fun e => hy e.symm).trans (eq_false fun e => q e.1).symm
theorem k_Reader_pastBlanks (hsp : zq_Sp S hr a p 60) (e : C a 1 = nI n) (hn : n ≤ 60) (hf : C p = f) : ∀ m i (v1 : Value), n ≤ i + m → i ≤ n → zq_P (d + 2) 28 2 [.ref a, v1, .int (nI i)] [] (S, C, hl, hr) Q = Q (some (.int (nI (sk f n m i)))) (S, C, hl, hr) := by
  have hsp2 := hsp
  unfold zq_Sp at hsp2
  intro m
  induction m with
  | zero =>
    intro i v1 h1 h2
    have q1 : (nI i < nI n) = False := eq_false (nI_nlt (by omega) (by omega))
    rw [zr28_2]
    simp only [zr28_0, zr28_1, zr28_3, zr28_4, zr28_7, zr28_10, zr28_11, zr28_12, zr28_15, zr28_17, zr28_20, zr28_23, zr28_26, zr28_27, hsp2, zq_kill_int, zq_kill_ref, zq_kill_ret, zq_kill_null, zq_kill_long, zq_rf_some, zq_rf_none, true_and, and_true, true_implies, not_true_eq_false, not_false_eq_true, false_implies, Bool.true_eq_false, Bool.false_eq_true, nI_1, zb_i0, zb_i1, zb_i2, Option.toList_some, Option.toList_none, List.cons_append, List.nil_append, true_or, or_true, implies_true, zb_it, zb_if, zb_10, zb_00, zb_n5, zb_n2, zb_m1, zb_m3, zb_m9, or_true, true_or, or_false, false_or, e, q1, sk]
  | succ m ih =>
    intro i v1 h1 h2
    rw [sk_s, zr28_2]
    by_cases q : i < n
    · have q1 : (nI i < nI n) = True := eq_true ((nI_ltI (by omega) (by omega)).mpr q)
      have bt := fun Q => k_Strip_byteAt (d := d) (hl := hl) (Q := Q) hsp e hn hf (show i ≤ 1000 by omega)
      have eb : bya f n i = f i := if_pos q
      by_cases q2 : f i = 32
      · rw [if_pos ⟨q, q2⟩]
        simp only [zr28_0, zr28_1, zr28_3, zr28_4, zr28_7, zr28_10, zr28_11, zr28_12, zr28_15, zr28_17, zr28_20, zr28_23, zr28_26, zr28_27, hsp2, zq_kill_int, zq_kill_ref, zq_kill_ret, zq_kill_null, zq_kill_long, zq_rf_some, zq_rf_none, true_and, and_true, true_implies, not_true_eq_false, not_false_eq_true, false_implies, Bool.true_eq_false, Bool.false_eq_true, nI_1, zb_i0, zb_i1, zb_i2, Option.toList_some, Option.toList_none, List.cons_append, List.nil_append, true_or, or_true, implies_true, zb_it, zb_if, zb_10, zb_00, zb_n5, zb_n2, zb_m1, zb_m3, zb_m9, or_true, true_or, or_false, false_or, e, q1, bt, eb, q2, ih (i + 1) (zq_kill v1) (by omega) (by omega)]
      · rw [if_neg (fun z => q2 z.2)]
        simp only [zr28_0, zr28_1, zr28_3, zr28_4, zr28_7, zr28_10, zr28_11, zr28_12, zr28_15, zr28_17, zr28_20, zr28_23, zr28_26, zr28_27, hsp2, zq_kill_int, zq_kill_ref, zq_kill_ret, zq_kill_null, zq_kill_long, zq_rf_some, zq_rf_none, true_and, and_true, true_implies, not_true_eq_false, not_false_eq_true, false_implies, Bool.true_eq_false, Bool.false_eq_true, nI_1, zb_i0, zb_i1, zb_i2, Option.toList_some, Option.toList_none, List.cons_append, List.nil_append, true_or, or_true, implies_true, zb_it, zb_if, zb_10, zb_00, zb_n5, zb_n2, zb_m1, zb_m3, zb_m9, or_true, true_or, or_false, false_or, e, q1, bt, eb, q2]
    · have q1 : (nI i < nI n) = False := eq_false (nI_nlt (by omega) (by omega))
      rw [if_neg (fun z => q z.1)]
      simp only [zr28_0, zr28_1, zr28_3, zr28_4, zr28_7, zr28_10, zr28_11, zr28_12, zr28_15, zr28_17, zr28_20, zr28_23, zr28_26, zr28_27, hsp2, zq_kill_int, zq_kill_ref, zq_kill_ret, zq_kill_null, zq_kill_long, zq_rf_some, zq_rf_none, true_and, and_true, true_implies, not_true_eq_false, not_false_eq_true, false_implies, Bool.true_eq_false, Bool.false_eq_true, nI_1, zb_i0, zb_i1, zb_i2, Option.toList_some, Option.toList_none, List.cons_append, List.nil_append, true_or, or_true, implies_true, zb_it, zb_if, zb_10, zb_00, zb_n5, zb_n2, zb_m1, zb_m3, zb_m9, or_true, true_or, or_false, false_or, e, q1]
theorem k_Reader_blanks (hsp : zq_Sp S hr a p 60) (e : C a 1 = nI n) (hn : n ≤ 60) (hf : C p = f) (hi : i ≤ n) : zq_P (d + 2) 28 0 [.ref a, .int (nI i), .retAddr 0] [] (S, C, hl, hr) Q = Q (some (.int (nI (skp f n i)))) (S, C, hl, hr) := by
  have k := k_Reader_pastBlanks (d := d) (hl := hl) (Q := Q) hsp e hn hf 60 i (.int (nI i)) (by omega) hi
  simp only [zr28_0, zr28_1, zr28_3, zr28_4, zr28_7, zr28_10, zr28_11, zr28_12, zr28_15, zr28_17, zr28_20, zr28_23, zr28_26, zr28_27, zq_kill_int, zq_kill_ref, zq_kill_ret, zq_kill_null, zq_kill_long, zq_rf_some, zq_rf_none, true_and, and_true, true_implies, not_true_eq_false, not_false_eq_true, false_implies, Bool.true_eq_false, Bool.false_eq_true, nI_1, zb_i0, zb_i1, zb_i2, Option.toList_some, Option.toList_none, List.cons_append, List.nil_append, true_or, or_true, implies_true]
  exact k
theorem k_Reader_figure (hsp : zq_Sp S hr a p 60) (e : C a 1 = nI n) (hn : n ≤ 60) (hf : C p = f) (hi : i ≤ 1000) (hh : h ≤ 9) : zq_P (d + 2) 30 0 [.ref a, .int (nI i), .int (nI h), .retAddr 0] [] (S, C, hl, hr) Q = Q (some (.int (ddi (fgv f n i h)))) (S, C, hl, hr) := by
  have hsp2 := hsp
  unfold zq_Sp at hsp2
  have bt := fun Q => k_Strip_byteAt (d := d) (hl := hl) (Q := Q) hsp e hn hf hi
  unfold fgv
  by_cases q : i < n
  · have eb : bya f n i = f i := if_pos q
    simp only [zr30_0, zr30_1, zr30_2, zr30_5, zr30_7, zr30_8, zr30_9, zr30_10, zr30_13, zr30_14, zr30_15, zr30_18, zr30_19, zr30_22, zr30_23, hsp2, zq_kill_int, zq_kill_ref, zq_kill_ret, zq_kill_null, zq_kill_long, zq_rf_some, zq_rf_none, true_and, and_true, true_implies, not_true_eq_false, not_false_eq_true, false_implies, Bool.true_eq_false, Bool.false_eq_true, nI_1, zb_i0, zb_i1, zb_i2, Option.toList_some, Option.toList_none, List.cons_append, List.nil_append, true_or, or_true, implies_true, zb_it, zb_if, zb_10, zb_00, zb_n5, zb_n2, zb_m1, zb_m3, zb_m9, or_true, true_or, or_false, false_or, bt, eb, q]
    by_cases q1 : f i - 48 < 0
    · simp [q1, ddi]
    · by_cases q2 : nI h < f i - 48
      · simp [q1, q2, ddi]
      · obtain ⟨j, hj, e2⟩ := nI_of q1
        simp only [q1, q2]
        rw [e2, zb_cl (by omega)]
        simp [ddi]
  · have eb : bya f n i = 1000 := if_neg q
    have e1 : (1000 : Int32) - 48 = nI 952 := by decide
    have q1 : (nI 952 < 0) = False := eq_false (by decide)
    have q2 : (nI h < nI 952) = True := eq_true ((nI_ltI (by omega) (by omega)).mpr (by omega))
    rw [if_neg (fun z => q z.1)]
    simp only [zr30_0, zr30_1, zr30_2, zr30_5, zr30_7, zr30_8, zr30_9, zr30_10, zr30_13, zr30_14, zr30_15, zr30_18, zr30_19, zr30_22, zr30_23, hsp2, zq_kill_int, zq_kill_ref, zq_kill_ret, zq_kill_null, zq_kill_long, zq_rf_some, zq_rf_none, true_and, and_true, true_implies, not_true_eq_false, not_false_eq_true, false_implies, Bool.true_eq_false, Bool.false_eq_true, nI_1, zb_i0, zb_i1, zb_i2, Option.toList_some, Option.toList_none, List.cons_append, List.nil_append, true_or, or_true, implies_true, zb_it, zb_if, zb_10, zb_00, zb_n5, zb_n2, zb_m1, zb_m3, zb_m9, or_true, true_or, or_false, false_or, bt, eb, e1, q1, q2, ddi]
theorem k_Reader_kindBy : zq_P d 33 0 [.int x] [] (S, C, hl, hr) Q = Q (some (.int (ddi (kb x)))) (S, C, hl, hr) := by
  by_cases hq : x.toInt < 103 ∨ 119 < x.toInt
  · have ne : ∀ y : Int32, 103 ≤ y.toInt → y.toInt ≤ 119 → ¬ x = y := fun y h1 h2 q => by subst q; omega
    have e : kb x = none := by
      unfold kb
      rw [if_neg (ne _ (by decide) (by decide)), if_neg (ne _ (by decide) (by decide)), if_neg (ne _ (by decide) (by decide)), if_neg (ne _ (by decide) (by decide)), if_neg (ne _ (by decide) (by decide)), if_neg (ne _ (by decide) (by decide))]
    rw [e]
    simp only [zr33_0]
    rw [zd33_1 hq]
    simp only [zr33_0, zr33_84, zr33_85, zr33_86, zr33_87, zr33_88, zr33_89, zr33_90, zr33_91, zr33_92, zr33_93, zr33_94, zr33_95, zr33_96, zr33_97, zr33_1_s103, zr33_1_s104, zr33_1_s105, zr33_1_s106, zr33_1_s107, zr33_1_s108, zr33_1_s109, zr33_1_s110, zr33_1_s111, zr33_1_s112, zr33_1_s113, zr33_1_s114, zr33_1_s115, zr33_1_s116, zr33_1_s117, zr33_1_s118, zr33_1_s119, ddi]
  · obtain ⟨k, hk, e⟩ : ∃ k : Nat, k < 17 ∧ x.toInt = 103 + k := ⟨(x.toInt - 103).toNat, by omega, by omega⟩
    have key : ∀ y : Int32, x.toInt = y.toInt → x = y := fun y h => Int32.toInt_inj.mp h
    match k, hk with
    | 0, _ => rw [key 103 (by rw [e]; decide)]; simp only [zr33_0, zr33_84, zr33_85, zr33_86, zr33_87, zr33_88, zr33_89, zr33_90, zr33_91, zr33_92, zr33_93, zr33_94, zr33_95, zr33_96, zr33_97, zr33_1_s103, zr33_1_s104, zr33_1_s105, zr33_1_s106, zr33_1_s107, zr33_1_s108, zr33_1_s109, zr33_1_s110, zr33_1_s111, zr33_1_s112, zr33_1_s113, zr33_1_s114, zr33_1_s115, zr33_1_s116, zr33_1_s117, zr33_1_s118, zr33_1_s119]; rfl
    | 1, _ => rw [key 104 (by rw [e]; decide)]; simp only [zr33_0, zr33_84, zr33_85, zr33_86, zr33_87, zr33_88, zr33_89, zr33_90, zr33_91, zr33_92, zr33_93, zr33_94, zr33_95, zr33_96, zr33_97, zr33_1_s103, zr33_1_s104, zr33_1_s105, zr33_1_s106, zr33_1_s107, zr33_1_s108, zr33_1_s109, zr33_1_s110, zr33_1_s111, zr33_1_s112, zr33_1_s113, zr33_1_s114, zr33_1_s115, zr33_1_s116, zr33_1_s117, zr33_1_s118, zr33_1_s119]; rfl
    | 2, _ => rw [key 105 (by rw [e]; decide)]; simp only [zr33_0, zr33_84, zr33_85, zr33_86, zr33_87, zr33_88, zr33_89, zr33_90, zr33_91, zr33_92, zr33_93, zr33_94, zr33_95, zr33_96, zr33_97, zr33_1_s103, zr33_1_s104, zr33_1_s105, zr33_1_s106, zr33_1_s107, zr33_1_s108, zr33_1_s109, zr33_1_s110, zr33_1_s111, zr33_1_s112, zr33_1_s113, zr33_1_s114, zr33_1_s115, zr33_1_s116, zr33_1_s117, zr33_1_s118, zr33_1_s119]; rfl
    | 3, _ => rw [key 106 (by rw [e]; decide)]; simp only [zr33_0, zr33_84, zr33_85, zr33_86, zr33_87, zr33_88, zr33_89, zr33_90, zr33_91, zr33_92, zr33_93, zr33_94, zr33_95, zr33_96, zr33_97, zr33_1_s103, zr33_1_s104, zr33_1_s105, zr33_1_s106, zr33_1_s107, zr33_1_s108, zr33_1_s109, zr33_1_s110, zr33_1_s111, zr33_1_s112, zr33_1_s113, zr33_1_s114, zr33_1_s115, zr33_1_s116, zr33_1_s117, zr33_1_s118, zr33_1_s119]; rfl
    | 4, _ => rw [key 107 (by rw [e]; decide)]; simp only [zr33_0, zr33_84, zr33_85, zr33_86, zr33_87, zr33_88, zr33_89, zr33_90, zr33_91, zr33_92, zr33_93, zr33_94, zr33_95, zr33_96, zr33_97, zr33_1_s103, zr33_1_s104, zr33_1_s105, zr33_1_s106, zr33_1_s107, zr33_1_s108, zr33_1_s109, zr33_1_s110, zr33_1_s111, zr33_1_s112, zr33_1_s113, zr33_1_s114, zr33_1_s115, zr33_1_s116, zr33_1_s117, zr33_1_s118, zr33_1_s119]; rfl
    | 5, _ => rw [key 108 (by rw [e]; decide)]; simp only [zr33_0, zr33_84, zr33_85, zr33_86, zr33_87, zr33_88, zr33_89, zr33_90, zr33_91, zr33_92, zr33_93, zr33_94, zr33_95, zr33_96, zr33_97, zr33_1_s103, zr33_1_s104, zr33_1_s105, zr33_1_s106, zr33_1_s107, zr33_1_s108, zr33_1_s109, zr33_1_s110, zr33_1_s111, zr33_1_s112, zr33_1_s113, zr33_1_s114, zr33_1_s115, zr33_1_s116, zr33_1_s117, zr33_1_s118, zr33_1_s119]; rfl
    | 6, _ => rw [key 109 (by rw [e]; decide)]; simp only [zr33_0, zr33_84, zr33_85, zr33_86, zr33_87, zr33_88, zr33_89, zr33_90, zr33_91, zr33_92, zr33_93, zr33_94, zr33_95, zr33_96, zr33_97, zr33_1_s103, zr33_1_s104, zr33_1_s105, zr33_1_s106, zr33_1_s107, zr33_1_s108, zr33_1_s109, zr33_1_s110, zr33_1_s111, zr33_1_s112, zr33_1_s113, zr33_1_s114, zr33_1_s115, zr33_1_s116, zr33_1_s117, zr33_1_s118, zr33_1_s119]; rfl
    | 7, _ => rw [key 110 (by rw [e]; decide)]; simp only [zr33_0, zr33_84, zr33_85, zr33_86, zr33_87, zr33_88, zr33_89, zr33_90, zr33_91, zr33_92, zr33_93, zr33_94, zr33_95, zr33_96, zr33_97, zr33_1_s103, zr33_1_s104, zr33_1_s105, zr33_1_s106, zr33_1_s107, zr33_1_s108, zr33_1_s109, zr33_1_s110, zr33_1_s111, zr33_1_s112, zr33_1_s113, zr33_1_s114, zr33_1_s115, zr33_1_s116, zr33_1_s117, zr33_1_s118, zr33_1_s119]; rfl
    | 8, _ => rw [key 111 (by rw [e]; decide)]; simp only [zr33_0, zr33_84, zr33_85, zr33_86, zr33_87, zr33_88, zr33_89, zr33_90, zr33_91, zr33_92, zr33_93, zr33_94, zr33_95, zr33_96, zr33_97, zr33_1_s103, zr33_1_s104, zr33_1_s105, zr33_1_s106, zr33_1_s107, zr33_1_s108, zr33_1_s109, zr33_1_s110, zr33_1_s111, zr33_1_s112, zr33_1_s113, zr33_1_s114, zr33_1_s115, zr33_1_s116, zr33_1_s117, zr33_1_s118, zr33_1_s119]; rfl
    | 9, _ => rw [key 112 (by rw [e]; decide)]; simp only [zr33_0, zr33_84, zr33_85, zr33_86, zr33_87, zr33_88, zr33_89, zr33_90, zr33_91, zr33_92, zr33_93, zr33_94, zr33_95, zr33_96, zr33_97, zr33_1_s103, zr33_1_s104, zr33_1_s105, zr33_1_s106, zr33_1_s107, zr33_1_s108, zr33_1_s109, zr33_1_s110, zr33_1_s111, zr33_1_s112, zr33_1_s113, zr33_1_s114, zr33_1_s115, zr33_1_s116, zr33_1_s117, zr33_1_s118, zr33_1_s119]; rfl
    | 10, _ => rw [key 113 (by rw [e]; decide)]; simp only [zr33_0, zr33_84, zr33_85, zr33_86, zr33_87, zr33_88, zr33_89, zr33_90, zr33_91, zr33_92, zr33_93, zr33_94, zr33_95, zr33_96, zr33_97, zr33_1_s103, zr33_1_s104, zr33_1_s105, zr33_1_s106, zr33_1_s107, zr33_1_s108, zr33_1_s109, zr33_1_s110, zr33_1_s111, zr33_1_s112, zr33_1_s113, zr33_1_s114, zr33_1_s115, zr33_1_s116, zr33_1_s117, zr33_1_s118, zr33_1_s119]; rfl
    | 11, _ => rw [key 114 (by rw [e]; decide)]; simp only [zr33_0, zr33_84, zr33_85, zr33_86, zr33_87, zr33_88, zr33_89, zr33_90, zr33_91, zr33_92, zr33_93, zr33_94, zr33_95, zr33_96, zr33_97, zr33_1_s103, zr33_1_s104, zr33_1_s105, zr33_1_s106, zr33_1_s107, zr33_1_s108, zr33_1_s109, zr33_1_s110, zr33_1_s111, zr33_1_s112, zr33_1_s113, zr33_1_s114, zr33_1_s115, zr33_1_s116, zr33_1_s117, zr33_1_s118, zr33_1_s119]; rfl
    | 12, _ => rw [key 115 (by rw [e]; decide)]; simp only [zr33_0, zr33_84, zr33_85, zr33_86, zr33_87, zr33_88, zr33_89, zr33_90, zr33_91, zr33_92, zr33_93, zr33_94, zr33_95, zr33_96, zr33_97, zr33_1_s103, zr33_1_s104, zr33_1_s105, zr33_1_s106, zr33_1_s107, zr33_1_s108, zr33_1_s109, zr33_1_s110, zr33_1_s111, zr33_1_s112, zr33_1_s113, zr33_1_s114, zr33_1_s115, zr33_1_s116, zr33_1_s117, zr33_1_s118, zr33_1_s119]; rfl
    | 13, _ => rw [key 116 (by rw [e]; decide)]; simp only [zr33_0, zr33_84, zr33_85, zr33_86, zr33_87, zr33_88, zr33_89, zr33_90, zr33_91, zr33_92, zr33_93, zr33_94, zr33_95, zr33_96, zr33_97, zr33_1_s103, zr33_1_s104, zr33_1_s105, zr33_1_s106, zr33_1_s107, zr33_1_s108, zr33_1_s109, zr33_1_s110, zr33_1_s111, zr33_1_s112, zr33_1_s113, zr33_1_s114, zr33_1_s115, zr33_1_s116, zr33_1_s117, zr33_1_s118, zr33_1_s119]; rfl
    | 14, _ => rw [key 117 (by rw [e]; decide)]; simp only [zr33_0, zr33_84, zr33_85, zr33_86, zr33_87, zr33_88, zr33_89, zr33_90, zr33_91, zr33_92, zr33_93, zr33_94, zr33_95, zr33_96, zr33_97, zr33_1_s103, zr33_1_s104, zr33_1_s105, zr33_1_s106, zr33_1_s107, zr33_1_s108, zr33_1_s109, zr33_1_s110, zr33_1_s111, zr33_1_s112, zr33_1_s113, zr33_1_s114, zr33_1_s115, zr33_1_s116, zr33_1_s117, zr33_1_s118, zr33_1_s119]; rfl
    | 15, _ => rw [key 118 (by rw [e]; decide)]; simp only [zr33_0, zr33_84, zr33_85, zr33_86, zr33_87, zr33_88, zr33_89, zr33_90, zr33_91, zr33_92, zr33_93, zr33_94, zr33_95, zr33_96, zr33_97, zr33_1_s103, zr33_1_s104, zr33_1_s105, zr33_1_s106, zr33_1_s107, zr33_1_s108, zr33_1_s109, zr33_1_s110, zr33_1_s111, zr33_1_s112, zr33_1_s113, zr33_1_s114, zr33_1_s115, zr33_1_s116, zr33_1_s117, zr33_1_s118, zr33_1_s119]; rfl
    | 16, _ => rw [key 119 (by rw [e]; decide)]; simp only [zr33_0, zr33_84, zr33_85, zr33_86, zr33_87, zr33_88, zr33_89, zr33_90, zr33_91, zr33_92, zr33_93, zr33_94, zr33_95, zr33_96, zr33_97, zr33_1_s103, zr33_1_s104, zr33_1_s105, zr33_1_s106, zr33_1_s107, zr33_1_s108, zr33_1_s109, zr33_1_s110, zr33_1_s111, zr33_1_s112, zr33_1_s113, zr33_1_s114, zr33_1_s115, zr33_1_s116, zr33_1_s117, zr33_1_s118, zr33_1_s119]; rfl
    | k + 17, hk => omega
end Z60
