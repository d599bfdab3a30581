/-! A course aside in the class, the course of the reference: how they go together -/
def Cor (c W P D : Nat) (C M : zq_I) : Prop := sm_ct (jn C M) c W P ∧ sm_co (jn C M) 55 W D
def cfr (C C2 : zq_I) : Prop := ∀ a, a < 54 ∨ 57 < a → C2 a = C a
def mfr (M M2 : zq_I) : Prop := (∀ a, a ≠ 60 → a ≠ 74 → a ≠ 75 → M2 a = M a) ∧ (∀ f, f ≠ 25 → f ≠ 26 → f ≠ 27 → M2 60 f = M 60 f) ∧ ∀ j, 7 ≤ j → M2 74 j = M 74 j ∧ M2 75 j = M 75 j
theorem cfr_rfl (C : zq_I) : cfr C C := fun _ _ => rfl
theorem cfr_tr {A B C : zq_I} (h1 : cfr A B) (h2 : cfr B C) : cfr A C := fun a ha => (h2 a ha).trans (h1 a ha)
theorem mfr_rfl (M : zq_I) : mfr M M := ⟨fun _ _ _ _ => rfl, fun _ _ _ _ => rfl, fun _ _ => ⟨rfl, rfl⟩⟩
theorem mfr_tr {A B C : zq_I} (h1 : mfr A B) (h2 : mfr B C) : mfr A C := ⟨fun a a1 a2 a3 => (h2.1 a a1 a2 a3).trans (h1.1 a a1 a2 a3), fun f f1 f2 f3 => (h2.2.1 f f1 f2 f3).trans (h1.2.1 f f1 f2 f3), fun j hj => ⟨(h2.2.2 j hj).1.trans (h1.2.2 j hj).1, (h2.2.2 j hj).2.trans (h1.2.2 j hj).2⟩⟩
section Z42
variable {N ca cb cs c d W P D n w o : Nat} {hi C M : zq_I} {hl : zq_J} {Q : Option Value → zq_G → Prop}
theorem cfr_go : cfr C (zc_go C c 55 w) := fun a ha => by
  unfold zc_go
  rw [zq_u_ne (by omega), zq_u_ne (by omega), zq_u_ne (by omega), zq_u_ne (by omega), zq_u_ne (by omega)]
theorem cfr_re : cfr C (zc_re C 55) := fun a ha => by
  unfold zc_re
  rw [zq_u_ne (by omega), zq_u_ne (by omega), zq_u_ne (by omega), zq_u_ne (by omega)]
theorem mfr_go (hw : w < 7) : mfr M (zm_go M w) := by
  unfold zm_go
  refine ⟨fun a a1 a2 a3 => ?_, fun f f1 f2 f3 => ?_, fun j hj => ⟨?_, ?_⟩⟩
  · rw [zq_u_ne a1, zq_u_ne a3, zq_u_ne a2, zq_u_ne a1]
  · rw [zq_u_kn f1, zq_u_ne (by omega), zq_u_ne (by omega), zq_u_kn f2]
  · rw [zq_u_ne (by omega), zq_u_ne (by omega), zq_u_kn (by omega), zq_u_ne (by omega)]
  · rw [zq_u_ne (by omega), zq_u_kn (by omega), zq_u_ne (by omega), zq_u_ne (by omega)]
theorem mfr_re : mfr M (zm_re M) := by
  unfold zm_re
  refine ⟨fun a a1 a2 a3 => ?_, fun f f1 f2 f3 => ?_, fun j hj => ⟨?_, ?_⟩⟩
  · rw [zq_u_ne a1, zq_u_ne a1, zq_u_ne a1]
  · rw [zq_u_kn f1, zq_u_kn f3, zq_u_kn f2]
  · rw [zq_u_ne (by omega), zq_u_ne (by omega), zq_u_ne (by omega)]
  · rw [zq_u_ne (by omega), zq_u_ne (by omega), zq_u_ne (by omega)]
/-- the court does not change -/
theorem sm_ct_cm {C2 M2 : zq_I} (hc : c = 36 ∨ c = 45) (h : sm_ct (jn C M) c W P) (h1 : cfr C C2) (h2 : mfr M M2) : sm_ct (jn C2 M2) c W P := by
  refine sm_ct_fr h (fun a ha => ?_) ⟨?_, ?_, ?_⟩
  · rcases ha with ha | ha
    · rw [jn_lo (by omega), jn_lo (by omega), h1 a (by omega)]
    · rw [jn_hi (by omega), jn_hi (by omega), h2.1 a (by omega) (by omega) (by omega)]
  · rw [jn_hi (by omega), jn_hi (by omega)]; exact h2.2.1 _ (by omega) (by omega) (by omega)
  · rw [jn_hi (by omega), jn_hi (by omega)]; exact h2.2.1 _ (by omega) (by omega) (by omega)
  · rw [jn_hi (by omega), jn_hi (by omega)]; exact h2.2.1 _ (by omega) (by omega) (by omega)
theorem Cor.go (hc : c = 36 ∨ c = 45) (h : Cor c W P D C M) (hw : w < W) (hD : D < 200) : Cor c W P (D + 1) (zc_go C c 55 w) (zm_go M w) := by
  have hW := h.1.1.1
  refine ⟨sm_ct_cm hc h.1 cfr_go (mfr_go (by omega)), ?_⟩
  obtain ⟨⟨d0, d1, d2⟩, l, a⟩ := h.2
  rw [jn_lo (by omega)] at d1
  rw [jn_hi (by omega)] at d2
  have l1 : ∀ v, v < W → C 56 v = M 74 v ∧ C 57 v = M 75 v ∧ (M 74 v = (-9) ∨ ∃ j, j < D ∧ M 74 v = nI j) := fun v hv => by
    have := l v hv
    rw [jn_lo (a := 55 + 1) (by omega), jn_lo (a := 55 + 2) (by omega), jn_hi (a := 74) (by omega), jn_hi (a := 75) (by omega)] at this
    exact this
  have g25 : zm_go M w 60 25 = nI (D + 1) := by unfold zm_go; rw [zq_u_eq, d2, nI_1]
  have g74 : ∀ v, zm_go M w 74 v = if v = w then nI D else M 74 v := fun v => by
    unfold zm_go
    rw [zq_u_ne (by omega), zq_u_ne (by omega)]
    by_cases e : v = w
    · subst e; rw [zq_u_eq, if_pos rfl, d2]
    · rw [zq_u_kn e, if_neg e, zq_u_ne (by omega)]
  have g75 : ∀ v, zm_go M w 75 v = if v = w then M 75 w + 1 else M 75 v := fun v => by
    unfold zm_go
    rw [zq_u_ne (by omega)]
    by_cases e : v = w
    · subst e; rw [zq_u_eq, if_pos rfl]
    · rw [zq_u_kn e, if_neg e, zq_u_ne (by omega), zq_u_ne (by omega)]
  have c56 : ∀ v, zc_go C c 55 w 56 v = if v = w then nI D else C 56 v := fun v => by
    unfold zc_go
    rw [zq_u_ne (by omega), zq_u_ne (by omega), zq_u_ne (by omega), zq_u_ne (by omega)]
    by_cases e : v = w
    · subst e; rw [if_pos rfl]; exact zq_u_eq.trans d1
    · rw [if_neg e]; exact zq_u_kn e
  have c57 : ∀ v, zc_go C c 55 w 57 v = if v = w then C 57 w + 1 else C 57 v := fun v => by
    unfold zc_go
    rw [zq_u_ne (by omega), zq_u_ne (by omega), zq_u_ne (by omega)]
    by_cases e : v = w
    · subst e; rw [if_pos rfl]; exact zq_u_eq
    · rw [if_neg e]; exact (zq_u_kn e).trans (by rw [zq_u_ne (by omega)])
  have hold : ∀ v, v < W → v ≠ w → ¬ (¬ M 74 v = (-9) ∧ M 74 v = nI D) := by
    rintro v hv hne ⟨q1, q2⟩
    rcases (l1 v hv).2.2 with q | ⟨j, hj, q⟩
    · exact q1 q
    · rw [q] at q2
      have := (nI_eq (by omega) (by omega)).mp q2
      omega
  refine ⟨⟨by omega, ?_, ?_⟩, fun v hv => ⟨?_, ?_, ?_⟩, Or.inr ⟨w, hw, ?_, ?_, fun v hv hne => ?_⟩⟩
  · rw [jn_lo (by omega)]; unfold zc_go; rw [zq_u_eq, d1, nI_1]
  · rw [jn_hi (by omega)]; exact g25
  · rw [jn_lo (by omega), jn_hi (by omega), c56, g74, (l1 v hv).1]
  · rw [jn_lo (by omega), jn_hi (by omega), c57, g75, (l1 v hv).2.1, (l1 w hw).2.1]
  · rw [jn_hi (by omega), g74]
    by_cases e : v = w
    · rw [if_pos e]; exact Or.inr ⟨D, by omega, rfl⟩
    · rw [if_neg e]
      rcases (l1 v hv).2.2 with q | ⟨j, hj, q⟩
      · exact Or.inl q
      · exact Or.inr ⟨j, by omega, q⟩
  · rw [jn_lo (by omega)]; unfold zc_go; rw [zq_u_kn (by omega), zq_u_eq]
  · unfold sm_ah
    rw [jn_hi (by omega), jn_hi (by omega), g74, if_pos rfl, g25, nI_pred]
    refine ⟨fun q => ?_, rfl⟩
    have h5 : nI D < 0 := by rw [q]; decide
    exact nI_pos (by omega) h5
  · unfold sm_ah
    rw [jn_hi (by omega), jn_hi (by omega), g74, if_neg hne, g25, nI_pred]
    exact hold v hv hne
theorem Cor.re (hc : c = 36 ∨ c = 45) (h : Cor c W P D C M) (hD : D < 200) : Cor c W P (D + 1) (zc_re C 55) (zm_re M) := by
  have hW := h.1.1.1
  refine ⟨sm_ct_cm hc h.1 cfr_re mfr_re, ?_⟩
  obtain ⟨⟨d0, d1, d2⟩, l, a⟩ := h.2
  rw [jn_lo (by omega)] at d1
  rw [jn_hi (by omega)] at d2
  have l1 : ∀ v, v < W → C 56 v = M 74 v ∧ C 57 v = M 75 v ∧ (M 74 v = (-9) ∨ ∃ j, j < D ∧ M 74 v = nI j) := fun v hv => by
    have := l v hv
    rw [jn_lo (a := 55 + 1) (by omega), jn_lo (a := 55 + 2) (by omega), jn_hi (a := 74) (by omega), jn_hi (a := 75) (by omega)] at this
    exact this
  have g25 : zm_re M 60 25 = nI (D + 1) := by unfold zm_re; rw [zq_u_eq, d2, nI_1]
  have g74 : zm_re M 74 = M 74 := by unfold zm_re; rw [zq_u_ne (by omega), zq_u_ne (by omega), zq_u_ne (by omega)]
  have g75 : zm_re M 75 = M 75 := by unfold zm_re; rw [zq_u_ne (by omega), zq_u_ne (by omega), zq_u_ne (by omega)]
  have c56 : zc_re C 55 56 = C 56 := by unfold zc_re; rw [zq_u_ne (by omega), zq_u_ne (by omega), zq_u_ne (by omega), zq_u_ne (by omega)]
  have c57 : zc_re C 55 57 = C 57 := by unfold zc_re; rw [zq_u_ne (by omega), zq_u_ne (by omega), zq_u_ne (by omega), zq_u_ne (by omega)]
  refine ⟨⟨by omega, ?_, ?_⟩, fun v hv => ⟨?_, ?_, ?_⟩, Or.inl ⟨?_, fun v hv => ?_⟩⟩
  · rw [jn_lo (by omega)]; unfold zc_re; rw [zq_u_eq, d1, nI_1]
  · rw [jn_hi (by omega)]; exact g25
  · rw [jn_lo (by omega), jn_hi (by omega)]; rw [show (55 + 1 : Nat) = 56 from rfl, c56, g74]; exact (l1 v hv).1
  · rw [jn_lo (by omega), jn_hi (by omega)]; rw [show (55 + 2 : Nat) = 57 from rfl, c57, g75]; exact (l1 v hv).2.1
  · rw [jn_hi (by omega), g74]
    rcases (l1 v hv).2.2 with q | ⟨j, hj, q⟩
    · exact Or.inl q
    · exact Or.inr ⟨j, by omega, q⟩
  · rw [jn_lo (by omega)]; unfold zc_re; rw [zq_u_kn (by omega), zq_u_eq]
  · unfold sm_ah
    rw [jn_hi (by omega), jn_hi (by omega), g74, g25, nI_pred]
    rintro ⟨q1, q2⟩
    rcases (l1 v hv).2.2 with q | ⟨j, hj, q⟩
    · exact q1 q
    · rw [q] at q2
      have := (nI_eq (by omega) (by omega)).mp q2
      omega
/-- what is open aside, is what the reference can do -/
theorem Cor.opens (hc : c = 36 ∨ c = 45) (h : Cor c W P D C M) : zb_set (zc_open C c 55 (zb_set (zc_away C c (C 55 2)) P)) W = zb_set (cano M W P) W := by
  have e1 : ∀ a, a < 60 → jn C M a = C a := fun a ha => jn_lo ha
  have e2 : ∀ a, 60 ≤ a → jn C M a = M a := fun a ha => jn_hi ha
  have d : C 55 2 = M 60 25 := by
    have a1 := h.2.1.2.1
    have a2 := h.2.1.2.2
    rw [e1 55 (by omega)] at a1
    rw [e2 60 (by omega)] at a2
    rw [a1, a2]
  have k1 := sm_opens h.1 h.2 (zb_set (zc_away C c (C 55 2)) P)
  have k2 := sm_aw h.1
  rw [zc_open_fr (by omega) (by omega) e1, zm_can_fr e2] at k1
  have k3 := k2 (C 55 2)
  rw [zc_away_fr (by omega) e1, zm_away_fr e2] at k3
  unfold cano
  rw [k1, k3, d]
theorem Cor.facts (h : Cor c W P D C M) (hc : c = 36 ∨ c = 45) : (W ≤ 7 ∧ P ≤ 3 ∧ C c 10 = nI W ∧ M 60 10 = nI W ∧ C c 9 = nI P ∧ M 60 12 = nI P) ∧ (∀ k, k < P → ¬ M 67 k = 0) ∧ ∀ w, w < W → C (c + 6) w = zm_tr M w ∧ C (c + 7) w = zm_needs M w ∧ C (c + 8) w = zm_rest M w ∧ C (c + 3) w = M 69 w := by
  have e2 : ∀ a, 60 ≤ a → jn C M a = M a := fun a ha => jn_hi ha
  have hz := sm_nz h.1
  obtain ⟨⟨w1, w2, w3, w4, w5, w6, -⟩, -, wa⟩ := h.1
  rw [jn_lo (by omega)] at w3 w5
  rw [jn_hi (by omega)] at w4 w6
  refine ⟨⟨w1, w2, w3, w4, w5, w6⟩, fun k hk => ?_, fun w hw => ?_⟩
  · have := hz k hk
    rwa [jn_hi (by omega)] at this
  · obtain ⟨b1, b2, b3, b4, b5, b6, -⟩ := wa w hw
    rw [jn_lo (by omega)] at b1 b4 b5 b6
    rw [zm_tr_fr (hi := M) (e2 _ (by omega)) (e2 _ (by omega))] at b4
    unfold zm_needs at b5
    unfold zm_rest at b6
    rw [jn_hi (by omega), jn_hi (by omega)] at b5
    rw [jn_hi (by omega), jn_hi (by omega)] at b6
    rw [jn_hi (by omega)] at b1
    exact ⟨b4, b5, b6, b1⟩
theorem k_Search_open (hc : c = 36 ∨ c = 45) (h : Cor c W P D C M) : zq_P (d + 4) 67 0 [.ref 54] [] (zq_SG N, C, hl, zq_HR ca cb c) Q = Q (some (.int (zb_set (cano M W P) W))) (zq_SG N, C, hl, zq_HR ca cb c) := by
  have hc1 := zq_Ct_ok (N := N) (ca := ca) (cb := cb) (cs := c) hc
  have ho := zq_Co_ok (N := N) (ca := ca) (cb := cb) (cs := c) (o := 55) (Or.inr rfl)
  obtain ⟨⟨w1, w2, w3, w4, w5, w6⟩, -, -⟩ := h.facts hc
  rw [← h.opens hc]
  simp only [zr67_0, zr67_1, zr67_4, zr67_5, zr67_8, zr67_9, zr67_12, zr67_13, zr67_16, zr67_19, zr67_22, zr67_25, zs_q0 N, zh_q0 ca cb c, hc1.1, zq_kill_int, zq_kill_ref, zq_kill_ret, zq_kill_null, zq_kill_long, zq_rf_some, zq_rf_none, true_and, and_true, true_implies, not_true_eq_false, not_false_eq_true, false_implies, Bool.true_eq_false, Bool.false_eq_true, nI_1, zb_i0, zb_i1, zb_i2, Option.toList_some, Option.toList_none, List.cons_append, List.nil_append, true_or, or_true, implies_true, k_Court_awayOn hc1 w5 w2, k_Course_openWays hc1 ho w3 w1]
/-- the search begins -/
def chp (t : Nat → Int32) : Nat → Int32
  | 0 => 20
  | k + 1 => if t k < chp t k then t k else chp t k
theorem k_Search_begin (hca : ca = 36 ∨ ca = 45) (hp : hi ca 10 = nI W) (hW : W ≤ 7) (hn : n ≤ 6) : ∃ C0, (∀ Q, zq_P (d + 1) 64 0 [.ref 54, .ref ca, .ref 32, .int (nI n), .retAddr 0] [] (zq_SG N, hi, hl, zq_HR ca cb cs) Q = Q none (zq_SG N, C0, hl, zq_HR ca cb ca)) ∧ cfr hi C0 ∧ (C0 55 2 = hi 32 2 ∧ C0 55 3 = hi 32 3 ∧ C0 55 4 = 0 ∧ C0 55 5 = hi 32 5) ∧ (∀ j, j < 7 → C0 56 j = hi 33 j ∧ C0 57 j = hi 34 j) ∧ C0 54 4 = nI n ∧ C0 54 6 = (-9) ∧ C0 54 5 = chp (hi (ca + 6)) W := by
  have hct := zq_Ct_ok (N := N) (ca := ca) (cb := cb) (cs := ca) hca
  have hct2 := hct
  unfold zq_Ct at hct2
  have q5 : (0 : Int32).toNatClampNeg = 0 := rfl
  have q7 : (7 : Int32).toNatClampNeg = 7 := rfl
  have q8 : ((7 : Int32) < 0) = False := eq_false (by decide)
  have q9 : (0 + 7 ≤ 7) = True := eq_true (by decide)
  have hmin : (if (6 : Int32) < nI n then 6 else nI n) = nI n := if_neg (nI_nlt (a := 6) hn (by omega))
  have hmax : (if (0 : Int32) < nI n then nI n else 0) = nI n := by
    by_cases e : n = 0
    · subst e; rfl
    · exact if_pos (nI_lt (a := 0) (by omega) (by omega))
  generalize hg : zq_u (zq_u (zq_u (zq_u (zq_u (zq_u (zq_u (zq_w (zq_w hi 56 (va_cpy (hi 33) (hi 56) 0 0 7)) 57 (va_cpy (hi 34) (hi 57) 0 0 7)) 55 2 (hi 32 2)) 55 3 (hi 32 3)) 55 4 0) 55 5 (hi 32 5)) 54 4 (nI n)) 54 6 (-9)) 54 5 20 = g
  have go : ∀ a, a < 54 ∨ 57 < a → g a = hi a := fun a ha => by rw [← hg, zq_u_ne (by omega), zq_u_ne (by omega), zq_u_ne (by omega), zq_u_ne (by omega), zq_u_ne (by omega), zq_u_ne (by omega), zq_u_ne (by omega), zq_w_ne (by omega), zq_w_ne (by omega)]
  have g5 : g 54 5 = 20 := by rw [← hg]; exact zq_u_eq
  have guu : ∀ v w : Int32, zq_u (zq_u g 54 5 v) 54 5 w = zq_u g 54 5 w := fun v w => zq_uu
  have loop : ∀ Q, zq_P (d + 1) 64 42 [.ref 54, .ref ca, .ref 32, .int (nI n), .int (nI 0)] [] (zq_SG N, zq_u g 54 5 (chp (hi (ca + 6)) 0), hl, zq_HR ca cb ca) Q = zq_P (d + 1) 64 42 [.ref 54, .ref ca, .ref 32, .int (nI n), .int (nI W)] [] (zq_SG N, zq_u g 54 5 (chp (hi (ca + 6)) W), hl, zq_HR ca cb ca) Q := by
    intro Q
    refine zq_loop (f := fun k => zq_P (d + 1) 64 42 [.ref 54, .ref ca, .ref 32, .int (nI n), .int (nI k)] [] (zq_SG N, zq_u g 54 5 (chp (hi (ca + 6)) k), hl, zq_HR ca cb ca) Q) fun k hk => ?_
    have x1 : zq_xS (nI k) 7 := zb_x (by omega) (by omega)
    have x2 : (nI k).toNatClampNeg = k := zb_cl (by omega)
    have h3 : (nI k < nI W) = True := eq_true ((nI_ltI (by omega) (by omega)).mpr hk)
    have e1 : ∀ v, zq_u g 54 5 v ca 10 = nI W := fun v => by rw [zq_u_ne (by omega), go _ (by omega)]; exact hp
    have e2 : ∀ v, zq_u g 54 5 v (ca + 6) = hi (ca + 6) := fun v => by rw [zq_u_ne (by omega), go _ (by omega)]
    have e3 : ∀ v : Int32, zq_u g 54 5 v 54 5 = v := fun v => zq_u_eq
    rw [zr64_42]
    simp only [zr64_0, zr64_1, zr64_2, zr64_5, zr64_6, zr64_9, zr64_10, zr64_13, zr64_14, zr64_15, zr64_16, zr64_18, zr64_21, zr64_24, zr64_27, zr64_28, zr64_30, zr64_33, zr64_34, zr64_36, zr64_39, zr64_40, zr64_44, zr64_45, zr64_48, zr64_51, zr64_52, zr64_53, zr64_56, zr64_57, zr64_60, zr64_62, zr64_63, zr64_66, zr64_69, zr64_72, zr64_75, zs_q0 N, zh_q0 ca cb ca, hct2, zq_kill_int, zq_kill_ref, zq_kill_ret, zq_kill_null, zq_kill_long, zq_rf_some, zq_rf_none, true_and, and_true, true_implies, not_true_eq_false, not_false_eq_true, false_implies, Bool.true_eq_false, Bool.false_eq_true, nI_1, zb_i0, zb_i1, zb_i2, Option.toList_some, Option.toList_none, List.cons_append, List.nil_append, true_or, or_true, implies_true, zb_it, zb_if, zb_10, zb_00, zb_n5, zb_n2, zb_m1, zb_m3, zb_m9, or_true, true_or, or_false, false_or, e1, e2, e3, h3, x1, x2, guu, chp]
  refine ⟨zq_u g 54 5 (chp (hi (ca + 6)) W), fun Q => ?_, fun a ha => ?_, ⟨?_, ?_, ?_, ?_⟩, fun j hj => ⟨?_, ?_⟩, ?_, ?_, zq_u_eq⟩
  · have h3 : (nI W < nI W) = False := eq_false (nI_nlt (Nat.le_refl _) (by omega))
    have e1 : ∀ v, zq_u g 54 5 v ca 10 = nI W := fun v => by rw [zq_u_ne (by omega), go _ (by omega)]; exact hp
    have hgs : zq_u g 54 5 (chp (hi (ca + 6)) 0) = g := by
      show zq_u g 54 5 20 = g
      rw [← g5]
      funext a j
      unfold zq_u
      by_cases e : a = 54 ∧ j = 5
      · rw [if_pos e, e.1, e.2]
      · rw [if_neg e]
    have l := loop Q
    rw [hgs] at l
    have c1 : ∀ f, zq_w hi 56 f 34 = hi 34 := fun f => zq_w_ne (by omega)
    have c2 : ∀ f, zq_w hi 56 f 57 = hi 57 := fun f => zq_w_ne (by omega)
    have c3 : ∀ f f2, zq_w (zq_w hi 56 f) 57 f2 32 = hi 32 := fun f f2 => by rw [zq_w_ne (by omega), zq_w_ne (by omega)]
    have c4 : ∀ f f2 v, zq_u (zq_w (zq_w hi 56 f) 57 f2) 55 2 v 32 = hi 32 := fun f f2 v => by rw [zq_u_ne (by omega), zq_w_ne (by omega), zq_w_ne (by omega)]
    have c5 : ∀ f f2 v v2 v3, zq_u (zq_u (zq_u (zq_w (zq_w hi 56 f) 57 f2) 55 2 v) 55 3 v2) 55 4 v3 32 = hi 32 := fun f f2 v v2 v3 => by rw [zq_u_ne (by omega), zq_u_ne (by omega), zq_u_ne (by omega), zq_w_ne (by omega), zq_w_ne (by omega)]
    simp only [zr64_0, zr64_1, zr64_2, zr64_5, zr64_6, zr64_9, zr64_10, zr64_13, zr64_14, zr64_15, zr64_16, zr64_18, zr64_21, zr64_24, zr64_27, zr64_28, zr64_30, zr64_33, zr64_34, zr64_36, zr64_39, zr64_40, zr64_44, zr64_45, zr64_48, zr64_51, zr64_52, zr64_53, zr64_56, zr64_57, zr64_60, zr64_62, zr64_63, zr64_66, zr64_69, zr64_72, zr64_75, zr65_0, zr65_1, zr65_4, zr65_5, zr65_6, zr65_9, zr65_10, zr65_12, zr65_15, zr65_16, zr65_19, zr65_20, zr65_21, zr65_24, zr65_25, zr65_27, zr65_30, zr65_31, zr65_32, zr65_35, zr65_38, zr65_39, zr65_40, zr65_43, zr65_46, zr65_47, zr65_48, zr65_51, zr65_52, zr65_53, zr65_56, zr65_59, zs_q0 N, zs_x0 N, zh_q0 ca cb cs, zh_q0 ca cb ca, zh_x0 ca cb ca, zq_HR_cs, zq_kill_int, zq_kill_ref, zq_kill_ret, zq_kill_null, zq_kill_long, zq_rf_some, zq_rf_none, true_and, and_true, true_implies, not_true_eq_false, not_false_eq_true, false_implies, Bool.true_eq_false, Bool.false_eq_true, nI_1, zb_i0, zb_i1, zb_i2, Option.toList_some, Option.toList_none, List.cons_append, List.nil_append, true_or, or_true, implies_true, zb_it, zb_if, zb_10, zb_00, zb_n5, zb_n2, zb_m1, zb_m3, zb_m9, or_true, true_or, or_false, false_or, q5, q7, q8, q9, c1, c2, c3, c4, c5, hmin, hmax, hg]
    refine Eq.trans l ?_
    rw [zr64_42]
    simp only [zr64_0, zr64_1, zr64_2, zr64_5, zr64_6, zr64_9, zr64_10, zr64_13, zr64_14, zr64_15, zr64_16, zr64_18, zr64_21, zr64_24, zr64_27, zr64_28, zr64_30, zr64_33, zr64_34, zr64_36, zr64_39, zr64_40, zr64_44, zr64_45, zr64_48, zr64_51, zr64_52, zr64_53, zr64_56, zr64_57, zr64_60, zr64_62, zr64_63, zr64_66, zr64_69, zr64_72, zr64_75, hct2, zq_kill_int, zq_kill_ref, zq_kill_ret, zq_kill_null, zq_kill_long, zq_rf_some, zq_rf_none, true_and, and_true, true_implies, not_true_eq_false, not_false_eq_true, false_implies, Bool.true_eq_false, Bool.false_eq_true, nI_1, zb_i0, zb_i1, zb_i2, Option.toList_some, Option.toList_none, List.cons_append, List.nil_append, true_or, or_true, implies_true, zb_it, zb_if, zb_10, zb_00, zb_n5, zb_n2, zb_m1, zb_m3, zb_m9, or_true, true_or, or_false, false_or, e1, h3]
  · rw [zq_u_ne (by omega), go a ha]
  · rw [zq_u_ne (by omega), ← hg, zq_u_ne (by omega), zq_u_ne (by omega), zq_u_ne (by omega), zq_u_kn (by omega), zq_u_kn (by omega), zq_u_kn (by omega), zq_u_eq]
  · rw [zq_u_ne (by omega), ← hg, zq_u_ne (by omega), zq_u_ne (by omega), zq_u_ne (by omega), zq_u_kn (by omega), zq_u_kn (by omega), zq_u_eq]
  · rw [zq_u_ne (by omega), ← hg, zq_u_ne (by omega), zq_u_ne (by omega), zq_u_ne (by omega), zq_u_kn (by omega), zq_u_eq]
  · rw [zq_u_ne (by omega), ← hg, zq_u_ne (by omega), zq_u_ne (by omega), zq_u_ne (by omega), zq_u_eq]
  · rw [zq_u_ne (by omega), ← hg, zq_u_ne (by omega), zq_u_ne (by omega), zq_u_ne (by omega), zq_u_ne (by omega), zq_u_ne (by omega), zq_u_ne (by omega), zq_u_ne (by omega), zq_w_ne (by omega), zq_w_eq, pk_cpy_in (by omega) (by omega), show 0 + (j - 0) = j by omega]
  · rw [zq_u_ne (by omega), ← hg, zq_u_ne (by omega), zq_u_ne (by omega), zq_u_ne (by omega), zq_u_ne (by omega), zq_u_ne (by omega), zq_u_ne (by omega), zq_u_ne (by omega), zq_w_eq, pk_cpy_in (by omega) (by omega), show 0 + (j - 0) = j by omega]
  · rw [zq_u_kn (by omega), ← hg, zq_u_kn (by omega), zq_u_kn (by omega), zq_u_eq]
  · rw [zq_u_kn (by omega), ← hg, zq_u_kn (by omega), zq_u_eq]
/-- at the beginning both stand alike -/
theorem Cor.start {C0 : zq_I} (h : Sim hi hl ca cb cs W P D) (h1 : cfr hi C0) (h2 : C0 55 2 = hi 32 2 ∧ C0 55 3 = hi 32 3 ∧ C0 55 4 = 0 ∧ C0 55 5 = hi 32 5) (h3 : ∀ j, j < 7 → C0 56 j = hi 33 j ∧ C0 57 j = hi 34 j) : Cor ca W P D C0 hi := by
  have hca := h.court
  have hct := h.2.2.2.2.2.1
  have hW := hct.1.1
  have hco := sm_dd_co hct.1.1 h.2.2.2.2.2.2
  rw [← jn_self hi] at hct
  refine ⟨sm_ct_cm hca hct h1 (mfr_rfl _), ?_⟩
  obtain ⟨⟨d0, d1, d2⟩, l, a⟩ := hco
  have j74 : jn C0 hi 74 = hi 74 := jn_hi (by omega)
  have j75 : jn C0 hi 75 = hi 75 := jn_hi (by omega)
  have j60 : jn C0 hi 60 = hi 60 := jn_hi (by omega)
  have j55 : jn C0 hi 55 = C0 55 := jn_lo (by omega)
  have j56 : jn C0 hi (55 + 1) = C0 56 := jn_lo (by omega)
  have j57 : jn C0 hi (55 + 2) = C0 57 := jn_lo (by omega)
  unfold sm_co sm_ah
  rw [j74, j75, j60, j55, j56, j57, h2.1, h2.2.1]
  refine ⟨⟨d0, d1, d2⟩, fun w hw => ⟨?_, ?_, (l w hw).2.2⟩, a⟩
  · rw [(h3 w (by omega)).1]; exact (l w hw).1
  · rw [(h3 w (by omega)).2]; exact (l w hw).2.1
theorem k_M_begin : zq_P (d + 1) 180 0 [.ref 60] [] (zq_SG N, hi, hl, zq_HR ca cb cs) Q = Q none (zq_SG N, zm_wr hi 79 0, hl, zq_HR ca cb cs) := by
  have w1 : zq_aW (zq_SG N) 79 := by simp only [zs_m0 N, zs_m1 N, zs_m2 N]
  have w2 : zq_ln (zq_SG N) 79 = 17 := by simp only [zs_m0 N, zs_m1 N, zs_m2 N]
  have q := fun Q => k_M_write (N := N) (ca := ca) (cb := cb) (cs := cs) (d := d) (hi := hi) (hl := hl) (Q := Q) (at' := 0) w1 w2 (show 17 ≤ 3000 by omega) (show 0 + 17 ≤ 17 by omega) (by omega) (by omega) (by omega)
  rw [show nI 0 = 0 from rfl] at q
  simp only [zr180_0, zr180_1, zr180_2, zr180_5, zr180_6, zr180_9, zs_m0 N, zs_m1 N, zs_m2 N, zh_m0 ca cb cs, zq_kill_int, zq_kill_ref, zq_kill_ret, zq_kill_null, zq_kill_long, zq_rf_some, zq_rf_none, true_and, and_true, true_implies, not_true_eq_false, not_false_eq_true, false_implies, Bool.true_eq_false, Bool.false_eq_true, nI_1, zb_i0, zb_i1, zb_i2, Option.toList_some, Option.toList_none, List.cons_append, List.nil_append, true_or, or_true, implies_true, zb_it, zb_if, zb_10, zb_00, zb_n5, zb_n2, zb_m1, zb_m3, zb_m9, or_true, true_or, or_false, false_or, q]
theorem k_M_back : zq_P (d + 1) 181 0 [.ref 60] [] (zq_SG N, hi, hl, zq_HR ca cb cs) Q = Q none (zq_SG N, zm_rd hi 79 0, hl, zq_HR ca cb cs) := by
  have w1 : zq_aS (zq_SG N) 79 := by simp only [zs_m0 N, zs_m1 N, zs_m2 N]
  have w2 : zq_ln (zq_SG N) 79 = 17 := by simp only [zs_m0 N, zs_m1 N, zs_m2 N]
  have q := fun Q => k_M_read (N := N) (ca := ca) (cb := cb) (cs := cs) (d := d) (hi := hi) (hl := hl) (Q := Q) (at' := 0) w1 w2 (show 17 ≤ 3000 by omega) (show 0 + 17 ≤ 17 by omega) (by omega) (by omega) (by omega)
  rw [show nI 0 = 0 from rfl] at q
  simp only [zr181_0, zr181_1, zr181_2, zr181_5, zr181_6, zr181_9, zs_m0 N, zs_m1 N, zs_m2 N, zh_m0 ca cb cs, zq_kill_int, zq_kill_ref, zq_kill_ret, zq_kill_null, zq_kill_long, zq_rf_some, zq_rf_none, true_and, and_true, true_implies, not_true_eq_false, not_false_eq_true, false_implies, Bool.true_eq_false, Bool.false_eq_true, nI_1, zb_i0, zb_i1, zb_i2, Option.toList_some, Option.toList_none, List.cons_append, List.nil_append, true_or, or_true, implies_true, zb_it, zb_if, zb_10, zb_00, zb_n5, zb_n2, zb_m1, zb_m3, zb_m9, or_true, true_or, or_false, false_or, q]
/-- back where it was -/
theorem zm_rd_back {M2 : zq_I} (h : mfr (zm_wr M 79 0) M2) : zm_rd M2 79 0 = zm_wr M 79 0 := by
  obtain ⟨h1, h2, h3⟩ := h
  have s : ∀ r, r < 17 → M2 79 r = zm_sn M r := fun r hr => by
    rw [h1 79 (by omega) (by omega) (by omega)]
    unfold zm_wr
    rw [zq_w_eq, zm_wk_in (by omega), Nat.sub_zero]
  have o : ∀ a, a ≠ 79 → zm_wr M 79 0 a = M a := fun a ha => by unfold zm_wr; rw [zq_w_ne ha]
  funext a j
  unfold zm_rd zm_rk
  by_cases q5 : a = 75
  · subst q5
    rw [zq_w_eq, o 75 (by omega)]
    by_cases e : j < 7
    · rw [if_pos e, s _ (by omega)]
      unfold zm_sn
      rw [if_neg (by omega), if_neg (by omega), if_neg (by omega), if_neg (by omega), show 0 + 10 + j - 10 = j by omega]
    · rw [if_neg e, (h3 j (by omega)).2, o 75 (by omega)]
  · rw [zq_w_ne q5]
    by_cases q4 : a = 74
    · subst q4
      rw [zq_w_eq, o 74 (by omega)]
      by_cases e : j < 7
      · rw [if_pos e, s _ (by omega)]
        unfold zm_sn
        rw [if_neg (by omega), if_neg (by omega), if_neg (by omega), if_pos (by omega), show 0 + 3 + j - 3 = j by omega]
      · rw [if_neg e, (h3 j (by omega)).1, o 74 (by omega)]
    · rw [zq_w_ne q4]
      by_cases q6 : a = 60
      · subst q6
        by_cases f7 : j = 27
        · subst f7; rw [zq_u_eq, s 2 (by omega), o 60 (by omega)]; rfl
        · rw [zq_u_kn f7]
          by_cases f6 : j = 26
          · subst f6; rw [zq_u_eq, s 1 (by omega), o 60 (by omega)]; rfl
          · rw [zq_u_kn f6]
            by_cases f5 : j = 25
            · subst f5; rw [zq_u_eq, s 0 (by omega), o 60 (by omega)]; rfl
            · rw [zq_u_kn f5, h2 j f5 f6 f7]
      · rw [zq_u_ne q6, zq_u_ne q6, zq_u_ne q6, h1 a q6 q4 q5]
end Z42
