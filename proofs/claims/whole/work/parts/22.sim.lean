/-! How class and reference stand to each other: court and course -/
def sm_ct (hi : zq_I) (c W P : Nat) : Prop :=
  (W ≤ 7 ∧ P ≤ 3 ∧ hi c 10 = nI W ∧ hi 60 10 = nI W ∧ hi c 9 = nI P ∧ hi 60 12 = nI P ∧ hi c 8 = hi 60 11 ∧ ∃ R, R ≤ 6 ∧ hi 60 11 = nI R) ∧
  (∀ k, k < P → hi (c + 1) k = hi 67 k ∧ hi (c + 2) k = hi 68 k ∧ ∃ r, 2 ≤ r ∧ r ≤ 7 ∧ hi 67 k = nI r) ∧
  (∀ w, w < W → hi (c + 3) w = hi 69 w ∧ hi (c + 4) w = hi 70 w ∧ hi (c + 5) w = hi 71 w ∧ hi (c + 6) w = zm_tr hi w ∧ hi (c + 7) w = zm_needs hi w ∧ hi (c + 8) w = zm_rest hi w ∧ (∃ k, k ≤ 5 ∧ hi 69 w = nI k) ∧ (∃ t, t ≤ 9 ∧ hi 70 w = nI t) ∧ ∃ s, s < 2 ^ P ∧ hi 71 w = nI s)
def sm_ah (hi : zq_I) (w : Nat) : Prop := ¬ hi 74 w = (-9) ∧ hi 74 w = hi 60 25 - 1
def sm_co (hi : zq_I) (o W D : Nat) : Prop :=
  (D ≤ 200 ∧ hi o 2 = nI D ∧ hi 60 25 = nI D) ∧ (∀ w, w < W → hi (o + 1) w = hi 74 w ∧ hi (o + 2) w = hi 75 w ∧ (hi 74 w = (-9) ∨ ∃ j, j < D ∧ hi 74 w = nI j)) ∧
  ((hi o 3 = (-1) ∧ ∀ w, w < W → ¬ sm_ah hi w) ∨ ∃ a, a < W ∧ hi o 3 = nI a ∧ sm_ah hi a ∧ ∀ w, w < W → w ≠ a → ¬ sm_ah hi w)
section Z22
variable {c o W P D : Nat} {hi : zq_I}
theorem sm_away (h : sm_ct hi c W P) {day : Int32} {k : Nat} (hk : k < P) : zc_away hi c day k = zm_away hi day k := by
  obtain ⟨-, h2, -⟩ := h
  obtain ⟨a1, a2, r, r1, r2, r3⟩ := h2 k hk
  unfold zc_away zm_away
  rw [a1, a2]
  have : 0 < hi 67 k := by
    rw [r3, ← nI_0]
    exact nI_lt (by omega) (by omega)
  simp [this]
theorem sm_nz (h : sm_ct hi c W P) : ∀ k, k < P → ¬ hi 67 k = 0 := by
  intro k hk
  obtain ⟨a1, a2, r, r1, r2, r3⟩ := h.2.1 k hk
  rw [r3]
  exact nI_ne0 (by omega) (by omega)
theorem sm_aw (h : sm_ct hi c W P) (day : Int32) : zb_set (zc_away hi c day) P = zb_set (zm_away hi day) P := zb_set_cong fun _ hk => sm_away h hk
theorem zb_any_iff {p : Nat → Bool} {n : Nat} : zb_any p n = true ↔ ∃ k, k < n ∧ p k = true := by
  induction n with
  | zero => simp [zb_any]
  | succ n ih =>
    rw [zb_any_s, Bool.or_eq_true, ih]
    constructor
    · rintro (⟨k, hk, h⟩ | h)
      · exact ⟨k, by omega, h⟩
      · exact ⟨n, by omega, h⟩
    · rintro ⟨k, hk, h⟩
      by_cases e : k = n
      · subst e; exact Or.inr h
      · exact Or.inl ⟨k, by omega, h⟩
theorem zc_riot (k : Int32) : zc_kindIs k 1 = zm_riot k := by
  unfold zc_kindIs zm_riot
  simp
theorem sm_any0 (hW : W ≤ 7) (h : sm_co hi o W D) : zb_any (zm_ah hi false) W = decide (¬ hi o 3 = (-1)) := by
  obtain ⟨-, -, h3⟩ := h
  rw [Bool.eq_iff_iff, zb_any_iff, decide_eq_true_eq]
  rcases h3 with ⟨e, hn⟩ | ⟨a, ha, e, h1, h2⟩
  · constructor
    · rintro ⟨k, hk, q⟩
      exact absurd (by simpa [zm_ah, sm_ah] using q) (hn k hk)
    · intro q; exact absurd e q
  · constructor
    · intro _ q
      rw [e] at q
      have h5 : (nI a) < 0 := by rw [q]; decide
      exact nI_pos (by omega) h5
    · intro _
      exact ⟨a, ha, by simpa [zm_ah, sm_ah] using h1⟩
theorem sm_any1 (hc : sm_ct hi c W P) (h : sm_co hi o W D) : zb_any (zm_ah hi true) W = (zc_has hi c (hi o 3) && zc_kindIs (hi (c + 3) (hi o 3).toNatClampNeg) 1) := by
  obtain ⟨⟨hW, hP, c1, c2, -⟩, -, hw⟩ := hc
  obtain ⟨-, -, h3⟩ := h
  rw [Bool.eq_iff_iff, zb_any_iff, zc_riot]
  rcases h3 with ⟨e, hn⟩ | ⟨a, ha, e, h1, h2⟩
  · rw [e, zc_has_re, Bool.false_and]
    constructor
    · rintro ⟨k, hk, q⟩
      simp only [zm_ah, Bool.and_eq_true, decide_eq_true_eq] at q
      exact absurd q.1 (hn k hk)
    · intro q; cases q
  · rw [e, zc_has_nI c1 hW ha, Bool.true_and, zb_cl (by omega), (hw a ha).1]
    constructor
    · rintro ⟨k, hk, q⟩
      simp only [zm_ah, Bool.and_eq_true, decide_eq_true_eq] at q
      by_cases e2 : k = a
      · subst e2; simpa using q.2
      · exact absurd q.1 (h2 k hk e2)
    · intro q
      exact ⟨a, ha, by simp only [zm_ah, Bool.and_eq_true, decide_eq_true_eq]; exact ⟨h1, by simpa using q⟩⟩
theorem sm_open (hc : sm_ct hi c W P) (h : sm_co hi o W D) {w : Nat} (hw : w < W) (gone : Int32) : zc_open hi c o gone w = zm_can hi W gone w := by
  have a0 := sm_any0 hc.1.1 h
  have a1 := sm_any1 hc h
  obtain ⟨⟨hW, hP, c1, c2, -⟩, -, hw2⟩ := hc
  obtain ⟨⟨hD, d1, d2⟩, hl2, -⟩ := h
  obtain ⟨b1, b2, b3, b4, b5, b6, -⟩ := hw2 w hw
  obtain ⟨e1, e2, -⟩ := hl2 w hw
  unfold zc_open zm_can zc_ripe zc_fits
  rw [a0, a1, b1, b5, b6, e1, d1, d2, zc_riot]
  by_cases x1 : hi 69 w = 3
  · have x2 : zm_riot (hi 69 w) = false := by rw [x1]; decide
    rw [if_pos x1, x2]
    simp only [x1, Bool.false_and, Bool.not_false, Bool.and_true, not_true_eq_false, decide_false, Bool.false_or]
    generalize decide (zm_needs hi w &&& gone = 0) = t1
    cases t1 <;> simp
  · rw [if_neg x1]
    generalize decide (zm_needs hi w &&& gone = 0) = t1
    generalize zm_riot (hi 69 w) = t2
    generalize zc_has hi c (hi o 3) = t3
    generalize zc_kindIs (hi (c + 3) (hi o 3).toNatClampNeg) 1 = t4
    cases t1 <;> cases t2 <;> cases t3 <;> cases t4 <;> simp [x1]
theorem sm_opens (hc : sm_ct hi c W P) (h : sm_co hi o W D) (gone : Int32) : zb_set (zc_open hi c o gone) W = zb_set (zm_can hi W gone) W := zb_set_cong fun _ hk => sm_open hc h hk gone
end Z22
