/-! What was done, as a row of deeds: where things stand behind each; then all that class and reference have in common -/
/-- trouble, nights, last, times, ahead -/
abbrev rs_T : Type := Int32 × Int32 × (Nat → Int32) × (Nat → Int32) × Int32
def rs_go (tr : Nat → Int32) (W : Nat) (x : Int32) (i : Nat) (q : rs_T) : rs_T :=
  if ¬ x < 0 ∧ x < nI W then (q.1 + tr x.toNatClampNeg, q.2.1, va_up q.2.2.1 x.toNatClampNeg (nI i), va_up q.2.2.2.1 x.toNatClampNeg (q.2.2.2.1 x.toNatClampNeg + 1), x) else (q.1 + 20, q.2.1 + 1, q.2.2.1, q.2.2.2.1, -1)
def rs (tr : Nat → Int32) (W : Nat) (dd : Nat → Int32) : Nat → rs_T
  | 0 => (0, 0, fun _ => -9, fun _ => 0, -1)
  | i + 1 => rs_go tr W (dd i) i (rs tr W dd i)
theorem rs_s (tr : Nat → Int32) (W : Nat) (dd : Nat → Int32) (i : Nat) : rs tr W dd (i + 1) = rs_go tr W (dd i) i (rs tr W dd i) := rfl
/-- deeds that are such -/
def dd_ok (W : Nat) (dd : Nat → Int32) (n : Nat) : Prop := ∀ i, i < n → dd i = (-1) ∨ ∃ w, w < W ∧ dd i = nI w
theorem rs_go_w {tr : Nat → Int32} {W w i : Nat} {q : rs_T} (hW : W ≤ 7) (hw : w < W) : rs_go tr W (nI w) i q = (q.1 + tr w, q.2.1, va_up q.2.2.1 w (nI i), va_up q.2.2.2.1 w (q.2.2.2.1 w + 1), nI w) := by
  unfold rs_go
  rw [if_pos ⟨nI_pos (by omega), (nI_ltI (by omega) (by omega)).mpr hw⟩, zb_cl (by omega)]
theorem rs_go_r {tr : Nat → Int32} {W i : Nat} {q : rs_T} : rs_go tr W (-1) i q = (q.1 + 20, q.2.1 + 1, q.2.2.1, q.2.2.2.1, -1) := by
  unfold rs_go
  rw [if_neg (fun h => h.1 (by decide))]
theorem rs_cong {tr tr2 : Nat → Int32} {W : Nat} {dd dd2 : Nat → Int32} (hW : W ≤ 7) : ∀ {n : Nat}, (∀ i, i < n → dd i = dd2 i) → (∀ w, w < W → tr w = tr2 w) → dd_ok W dd n → rs tr W dd n = rs tr2 W dd2 n := by
  intro n
  induction n with
  | zero => intros; rfl
  | succ n ih =>
    intro h1 h2 h3
    rw [rs_s, rs_s, ih (fun i hi => h1 i (by omega)) h2 (fun i hi => h3 i (by omega)), ← h1 n (by omega)]
    rcases h3 n (by omega) with e | ⟨w, hw, e⟩
    · rw [e, rs_go_r, rs_go_r]
    · rw [e, rs_go_w hW hw, rs_go_w hW hw, h2 w hw]
/-- what a row of deeds makes of the last days -/
theorem rs_last {tr : Nat → Int32} {W : Nat} {dd : Nat → Int32} (hW : W ≤ 7) : ∀ {n : Nat}, dd_ok W dd n → ∀ w, (rs tr W dd n).2.2.1 w = (-9) ∨ ∃ j, j < n ∧ (rs tr W dd n).2.2.1 w = nI j := by
  intro n
  induction n with
  | zero => intro _ w; exact Or.inl rfl
  | succ n ih =>
    intro h w
    have h0 := ih (fun i hi => h i (by omega)) w
    rw [rs_s]
    rcases h n (by omega) with e | ⟨v, hv, e⟩
    · rw [e, rs_go_r]
      rcases h0 with h0 | ⟨j, hj, h0⟩
      · exact Or.inl h0
      · exact Or.inr ⟨j, by omega, h0⟩
    · rw [e, rs_go_w hW hv]
      by_cases e2 : w = v
      · subst e2
        exact Or.inr ⟨n, by omega, va_up_self _ _ _⟩
      · show va_up _ v _ w = _ ∨ _
        rw [va_up_ne _ _ e2]
        rcases h0 with h0 | ⟨j, hj, h0⟩
        · exact Or.inl h0
        · exact Or.inr ⟨j, by omega, by show va_up _ v _ w = _; rw [va_up_ne _ _ e2]; exact h0⟩
theorem rs_ahead {tr : Nat → Int32} {W : Nat} {dd : Nat → Int32} (hW : W ≤ 7) {n : Nat} (hn : n ≤ 1000) (h : dd_ok W dd n) : ((rs tr W dd n).2.2.2.2 = (-1) ∧ ∀ w, w < W → ¬ (¬ (rs tr W dd n).2.2.1 w = (-9) ∧ (rs tr W dd n).2.2.1 w = nI n - 1)) ∨ ∃ a, a < W ∧ (rs tr W dd n).2.2.2.2 = nI a ∧ (¬ (rs tr W dd n).2.2.1 a = (-9) ∧ (rs tr W dd n).2.2.1 a = nI n - 1) ∧ ∀ w, w < W → w ≠ a → ¬ (¬ (rs tr W dd n).2.2.1 w = (-9) ∧ (rs tr W dd n).2.2.1 w = nI n - 1) := by
  cases n with
  | zero => exact Or.inl ⟨rfl, fun w hw q => q.1 rfl⟩
  | succ n =>
    have e0 : nI (n + 1) - 1 = nI n := nI_pred n
    have hl := rs_last (tr := tr) hW (fun i hi => h i (by omega) : dd_ok W dd n)
    have old : ∀ w, ¬ (¬ (rs tr W dd n).2.2.1 w = (-9) ∧ (rs tr W dd n).2.2.1 w = nI n) := by
      rintro w ⟨q1, q2⟩
      rcases hl w with q | ⟨j, hj, q⟩
      · exact q1 q
      · rw [q] at q2
        have := (nI_eq (by omega) (by omega)).mp q2
        omega
    rw [rs_s, e0]
    rcases h n (by omega) with e | ⟨v, hv, e⟩
    · rw [e, rs_go_r]
      exact Or.inl ⟨rfl, fun w _ => old w⟩
    · rw [e, rs_go_w hW hv]
      refine Or.inr ⟨v, hv, rfl, ⟨?_, va_up_self _ _ _⟩, fun w hw hne => ?_⟩
      · show ¬ va_up _ v _ v = _
        rw [va_up_self]
        intro q
        have h5 : nI n < 0 := by rw [q]; decide
        exact nI_pos (by omega) h5
      · show ¬ (¬ va_up _ v _ w = _ ∧ va_up _ v _ w = _)
        rw [va_up_ne _ _ hne]
        exact old w
/-- a state of the course as seventeen ints from a place on -/
def sm_note (hi : zq_I) (a at' W i : Nat) (q : rs_T) : Prop := hi a at' = nI i ∧ hi a (at' + 1) = q.1 ∧ hi a (at' + 2) = q.2.1 ∧ ∀ w, w < W → hi a (at' + 3 + w) = q.2.2.1 w ∧ hi a (at' + 10 + w) = q.2.2.2.1 w
/-- deeds, the course, what the reference notes, what is kept -/
def sm_dd (hi : zq_I) (W D : Nat) : Prop :=
  (D ≤ 40 ∧ (W = 0 → D = 0) ∧ hi 30 1 = nI D ∧ hi 60 30 = nI D ∧ hi 32 2 = nI D ∧ hi 60 25 = nI D) ∧ dd_ok W (hi 31) D ∧
  (hi 32 4 = (rs (zm_tr hi) W (hi 31) D).1 ∧ hi 32 5 = (rs (zm_tr hi) W (hi 31) D).2.1 ∧ hi 32 3 = (rs (zm_tr hi) W (hi 31) D).2.2.2.2 ∧ ∀ w, w < W → hi 33 w = (rs (zm_tr hi) W (hi 31) D).2.2.1 w ∧ hi 34 w = (rs (zm_tr hi) W (hi 31) D).2.2.2.1 w) ∧
  (hi 60 26 = (rs (zm_tr hi) W (hi 31) D).1 ∧ hi 60 27 = (rs (zm_tr hi) W (hi 31) D).2.1 ∧ ∀ w, w < W → hi 74 w = (rs (zm_tr hi) W (hi 31) D).2.2.1 w ∧ hi 75 w = (rs (zm_tr hi) W (hi 31) D).2.2.2.1 w) ∧
  (∀ i, i < D → sm_note hi 76 (17 * i) W i (rs (zm_tr hi) W (hi 31) i)) ∧
  (∀ k, k < 3 → (hi (24 + 2 * k) 1 = (-1) ∧ hi 77 k = 0) ∨ ∃ n, n ≤ 40 ∧ 0 < W ∧ hi (24 + 2 * k) 1 = nI n ∧ hi 77 k = 1 ∧ hi 78 (698 * k + 697) = nI n ∧ dd_ok W (hi (25 + 2 * k)) n ∧ (∀ i, i < n → sm_note hi 78 (698 * k + 17 * i) W i (rs (zm_tr hi) W (hi (25 + 2 * k)) i)) ∧ sm_note hi 78 (698 * k + 680) W n (rs (zm_tr hi) W (hi (25 + 2 * k)) n))
theorem sm_dd_co {hi : zq_I} {W D : Nat} (hW : W ≤ 7) (h : sm_dd hi W D) : sm_co hi 32 W D := by
  obtain ⟨⟨d0, d1, d2, d3, d4, d5⟩, hdd, ⟨c1, c2, c3, c4⟩, ⟨m1, m2, m3⟩, -⟩ := h
  refine ⟨⟨by omega, d4, d5⟩, fun w hw => ⟨?_, ?_, ?_⟩, ?_⟩
  · rw [(c4 w hw).1, (m3 w hw).1]
  · rw [(c4 w hw).2, (m3 w hw).2]
  · rw [(m3 w hw).1]
    exact rs_last hW hdd w
  · have ha := rs_ahead (tr := zm_tr hi) hW (by omega) hdd
    unfold sm_ah
    rw [d5, c3]
    rcases ha with ⟨a1, a2⟩ | ⟨a, a1, a2, a3, a4⟩
    · exact Or.inl ⟨a1, fun w hw => by rw [(m3 w hw).1]; exact a2 w hw⟩
    · exact Or.inr ⟨a, a1, a2, by rw [(m3 a a1).1]; exact a3, fun w hw hne => by rw [(m3 w hw).1]; exact a4 w hw hne⟩
/-- what was told -/
def sm_tl (hi : zq_I) (hl : zq_J) : Prop := hi 0 9 = hi 60 2 ∧ hl 0 10 = hl 60 3 ∧ hl 0 11 = hl 60 4 ∧ hi 0 12 = hi 60 0 ∧ ∀ f, f < 6 → hi 35 f = hi 61 f
/-- rows and texts: (strips from a on, sizes, places; how many; how long) -/
def sm_st (hi : zq_I) (a ms mp M T : Nat) : Prop := ∀ r, r < M → (hi (a + 2 * r) 1 = (-1) ∧ hi ms r = (-9)) ∨ ∃ n, n ≤ T ∧ hi (a + 2 * r) 1 = nI n ∧ hi ms r = nI n ∧ ∀ k, k < n → hi (a + 1 + 2 * r) k = hi mp (T * r + k)
def Sim (hi : zq_I) (hl : zq_J) (ca cb cs W P D : Nat) : Prop := ((ca = 36 ∧ cb = 45) ∨ (ca = 45 ∧ cb = 36)) ∧ (cs = 36 ∨ cs = 45) ∧ sm_tl hi hl ∧ sm_st hi 2 62 63 6 40 ∧ sm_st hi 15 65 66 4 60 ∧ sm_ct hi ca W P ∧ sm_dd hi W D
