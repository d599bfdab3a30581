/-! Plans: what the reference's search makes of them -/
def fo {α : Type} (g : Nat → α → α) : Nat → α → α
  | 0, a => a
  | v + 1, a => g v (fo g v a)
theorem fo_s {α : Type} (g : Nat → α → α) (v : Nat) (a : α) : fo g (v + 1) a = g v (fo g v a) := rfl
def upn (π : Nat → Nat) (k w : Nat) : Nat → Nat := fun j => if j = k then w else π j
theorem upn_eq (π : Nat → Nat) (k w : Nat) : upn π k w k = w := if_pos rfl
theorem upn_ne {π : Nat → Nat} {k w j : Nat} (h : j ≠ k) : upn π k w j = π j := if_neg h
abbrev bsT : Type := Option (Nat × (Nat → Nat))
def bsu (b : bsT) (s : Nat) (π : Nat → Nat) : bsT := match b with
  | none => some (s, π)
  | some (c, ρ) => if s < c then some (s, π) else some (c, ρ)
abbrev exT : Type := Nat × bsT × Nat × (Nat → Nat)
def ent (a : exT) (k : Nat) (π : Nat → Nat) : exT := if a.2.2.1 < k then (a.1, a.2.1, k, π) else a
/-- all plans in turn: how many, the first of the least, the first of the farthest -/
def ex (ok : zq_I → Nat → Bool) (W : Nat) (t : Nat → Nat) : Nat → Nat → zq_I → Nat → (Nat → Nat) → exT → exT
  | 0, _, _, s, π, a => (a.1 + 1, bsu a.2.1 s π, a.2.2)
  | m + 1, k, M, s, π, a => fo (fun w a => if ok M w = true then ex ok W t m (k + 1) (zm_go M w) (s + t w) (upn π k w) (ent a (k + 1) (upn π k w)) else a) W a
/-- but for the search's own cells -/
def sfr (M H : zq_I) : Prop := (∀ a, a ≠ 60 → a < 80 ∨ 83 < a → H a = M a) ∧ ∀ f, f < 39 ∨ 41 < f → H 60 f = M 60 f
def okm (W P : Nat) (may : Int32) (M : zq_I) (w : Nat) : Bool := decide (zm_needs M w &&& (may ^^^ (-1)) = 0) && cano M W P w
/-- what holds of the reference's court all along -/
def Mok (W P : Nat) (t : Nat → Nat) (M : zq_I) : Prop := (M 60 10 = nI W ∧ W ≤ 7 ∧ M 60 12 = nI P ∧ P ≤ 3) ∧ (∀ k, k < P → ¬ M 67 k = 0) ∧ ∀ w, w < W → zm_tr M w = nI (t w) ∧ t w ≤ 18
section Z49
variable {N ca cb cs d W P D n k : Nat} {hi C M H : zq_I} {hl : zq_J} {Q : Option Value → zq_G → Prop} {t : Nat → Nat} {may b0 : Int32}
theorem Mok.go {w : Nat} (h : Mok W P t M) (hw : w < W) : Mok W P t (zm_go M w) := by
  have f := mfr_go (M := M) (w := w) (by have := h.1.2.1; omega)
  obtain ⟨⟨h1, h2, h3, h4⟩, h5, h6⟩ := h
  refine ⟨⟨?_, h2, ?_, h4⟩, fun k hk => ?_, fun v hv => ?_⟩
  · rw [f.2.1 _ (by omega) (by omega) (by omega)]; exact h1
  · rw [f.2.1 _ (by omega) (by omega) (by omega)]; exact h3
  · rw [f.1 _ (by omega) (by omega) (by omega)]; exact h5 k hk
  · rw [zm_tr_fr (hi := M) (f.1 _ (by omega) (by omega) (by omega)) (f.1 _ (by omega) (by omega) (by omega))]; exact h6 v hv
theorem sfr_cano (h : sfr M H) : cano H = cano M := by
  funext W P w
  unfold cano zm_can zm_rest zm_needs zm_away
  have e : zm_ah H = zm_ah M := by
    funext r v
    unfold zm_ah
    rw [h.1 74 (by omega) (by omega), h.1 69 (by omega) (by omega), h.2 25 (by omega)]
  rw [e, h.1 74 (by omega) (by omega), h.1 69 (by omega) (by omega), h.1 71 (by omega) (by omega), h.1 67 (by omega) (by omega), h.1 68 (by omega) (by omega), h.2 25 (by omega), h.2 11 (by omega)]
theorem sfr_needs (h : sfr M H) : zm_needs H = zm_needs M := by
  funext w
  unfold zm_needs
  rw [h.1 69 (by omega) (by omega), h.1 71 (by omega) (by omega)]
theorem sfr_tr (h : sfr M H) : zm_tr H = zm_tr M := zm_tr_fr (h.1 69 (by omega) (by omega)) (h.1 70 (by omega) (by omega))
theorem sfr_Mok (h : sfr M H) (hm : Mok W P t M) : Mok W P t H := by
  obtain ⟨⟨h1, h2, h3, h4⟩, h5, h6⟩ := hm
  refine ⟨⟨?_, h2, ?_, h4⟩, fun k hk => ?_, fun v hv => ?_⟩
  · rw [h.2 _ (by omega)]; exact h1
  · rw [h.2 _ (by omega)]; exact h3
  · rw [h.1 _ (by omega) (by omega)]; exact h5 k hk
  · rw [sfr_tr h]; exact h6 v hv
theorem zm_go_60 {w f : Nat} : zm_go M w 60 f = if f = 25 then M 60 25 + 1 else if f = 26 then M 60 26 + zm_tr M w else M 60 f := by
  unfold zm_go
  by_cases f5 : f = 25
  · subst f5; rw [zq_u_eq, if_pos rfl]
  · rw [zq_u_kn f5, if_neg f5, zq_u_ne (by omega), zq_u_ne (by omega)]
    by_cases f6 : f = 26
    · subst f6; rw [zq_u_eq, if_pos rfl]
    · rw [zq_u_kn f6, if_neg f6]
theorem zm_go_74 {w v : Nat} : zm_go M w 74 v = if v = w then M 60 25 else M 74 v := by
  unfold zm_go
  rw [zq_u_ne (by omega), zq_u_ne (by omega)]
  by_cases e : v = w
  · subst e; rw [zq_u_eq, if_pos rfl]
  · rw [zq_u_kn e, if_neg e, zq_u_ne (by omega)]
theorem zm_go_75 {w v : Nat} : zm_go M w 75 v = if v = w then M 75 w + 1 else M 75 v := by
  unfold zm_go
  rw [zq_u_ne (by omega)]
  by_cases e : v = w
  · subst e; rw [zq_u_eq, if_pos rfl]
  · rw [zq_u_kn e, if_neg e, zq_u_ne (by omega), zq_u_ne (by omega)]
theorem zm_go_o {w a : Nat} (a1 : a ≠ 60) (a2 : a ≠ 74) (a3 : a ≠ 75) : zm_go M w a = M a := by unfold zm_go; rw [zq_u_ne a1, zq_u_ne a3, zq_u_ne a2, zq_u_ne a1]
theorem sfr_go {w : Nat} (h : sfr M H) : sfr (zm_go M w) (zm_go H w) := by
  refine ⟨fun a a1 a2 => ?_, fun f hf => ?_⟩
  · by_cases q4 : a = 74
    · subst q4; funext v; rw [zm_go_74, zm_go_74, h.2 25 (by omega), h.1 74 (by omega) (by omega)]
    · by_cases q5 : a = 75
      · subst q5; funext v; rw [zm_go_75, zm_go_75, h.1 75 (by omega) (by omega)]
      · rw [zm_go_o a1 q4 q5, zm_go_o a1 q4 q5, h.1 a a1 a2]
  · rw [zm_go_60, zm_go_60, sfr_tr h, h.2 25 (by omega), h.2 26 (by omega), h.2 f hf]
/-- a day is taken back -/
def mtb (H : zq_I) (k w : Nat) : zq_I := zq_u (zq_u (zq_u (zq_u H 60 25 (H 60 25 - 1)) 74 w (H 81 k)) 75 w (H 75 w - 1)) 60 26 (H 60 26 - zm_tr H w)
theorem zb_asc (a b : Int32) : a + b - b = a := by
  rw [Int32.sub_eq_add_neg, Int32.add_assoc, ← Int32.sub_eq_add_neg, Int32.sub_self, Int32.add_zero]
theorem sfr_mtb {w : Nat} (h : sfr (zm_go M w) H) (hl2 : H 81 k = M 74 w) : sfr M (mtb H k w) := by
  have g25 : zm_go M w 60 25 = M 60 25 + 1 := by unfold zm_go; rw [zq_u_eq]
  have g26 : zm_go M w 60 26 = M 60 26 + zm_tr M w := by unfold zm_go; rw [zq_u_kn (by omega), zq_u_ne (by omega), zq_u_ne (by omega), zq_u_eq]
  have g60 : ∀ f, f ≠ 25 → f ≠ 26 → zm_go M w 60 f = M 60 f := fun f f1 f2 => by unfold zm_go; rw [zq_u_kn f1, zq_u_ne (by omega), zq_u_ne (by omega), zq_u_kn f2]
  have g74 : ∀ v, v ≠ w → zm_go M w 74 v = M 74 v := fun v hv => by unfold zm_go; rw [zq_u_ne (by omega), zq_u_ne (by omega), zq_u_kn hv, zq_u_ne (by omega)]
  have g75 : ∀ v, v ≠ w → zm_go M w 75 v = M 75 v := fun v hv => by unfold zm_go; rw [zq_u_ne (by omega), zq_u_kn hv, zq_u_ne (by omega), zq_u_ne (by omega)]
  have g75w : zm_go M w 75 w = M 75 w + 1 := by unfold zm_go; rw [zq_u_ne (by omega), zq_u_eq]
  have go : ∀ a, a ≠ 60 → a ≠ 74 → a ≠ 75 → zm_go M w a = M a := fun a a1 a2 a3 => by unfold zm_go; rw [zq_u_ne a1, zq_u_ne a3, zq_u_ne a2, zq_u_ne a1]
  have et : zm_tr H w = zm_tr M w := by rw [sfr_tr h, zm_tr_fr (hi := M) (go _ (by omega) (by omega) (by omega)) (go _ (by omega) (by omega) (by omega))]
  unfold mtb
  refine ⟨fun a a1 a2 => ?_, fun f hf => ?_⟩
  · rw [zq_u_ne a1]
    by_cases q5 : a = 75
    · subst q5
      funext v
      by_cases e : v = w
      · subst e; rw [zq_u_eq, h.1 75 (by omega) (by omega), g75w]; exact zb_asc _ _
      · rw [zq_u_kn e, zq_u_ne (by omega), zq_u_ne (by omega), h.1 75 (by omega) (by omega), g75 v e]
    · rw [zq_u_ne q5]
      by_cases q4 : a = 74
      · subst q4
        funext v
        by_cases e : v = w
        · subst e; rw [zq_u_eq]; exact hl2
        · rw [zq_u_kn e, zq_u_ne (by omega), h.1 74 (by omega) (by omega), g74 v e]
      · rw [zq_u_ne q4, zq_u_ne a1, h.1 a a1 a2, go a a1 q4 q5]
  · by_cases f6 : f = 26
    · subst f6; rw [zq_u_eq, h.2 26 (by omega), g26, et]; exact zb_asc _ _
    · rw [zq_u_kn f6, zq_u_ne (by omega), zq_u_ne (by omega)]
      by_cases f5 : f = 25
      · subst f5; rw [zq_u_eq, h.2 25 (by omega), g25]; exact zb_asc _ _
      · rw [zq_u_kn f5, h.2 f hf, g60 f f5 f6]
theorem k_M_takeBack {w : Nat} (hk : k < 7) (hw : w < 7) (h80 : H 80 k = nI w) : zq_P (d + 3) 174 0 [.ref 60, .int (nI k), .retAddr 0] [] (zq_SG N, H, hl, zq_HR ca cb cs) Q = Q none (zq_SG N, mtb H k w, hl, zq_HR ca cb cs) := by
  have x1 : zq_xS (nI k) 7 := zb_x (by omega) (by omega)
  have x2 : (nI k).toNatClampNeg = k := zb_cl (by omega)
  have y1 : zq_xS (nI w) 7 := zb_x (by omega) (by omega)
  have y2 : (nI w).toNatClampNeg = w := zb_cl (by omega)
  have e1 : ∀ v, zq_u H 60 25 v 81 = H 81 := fun v => zq_u_ne (by omega)
  have e2 : ∀ v u, zq_u (zq_u H 60 25 v) 74 w u 75 w = H 75 w := fun v u => by rw [zq_u_ne (by omega), zq_u_ne (by omega)]
  have e3 : ∀ v u x, zq_u (zq_u (zq_u H 60 25 v) 74 w u) 75 w x 60 26 = H 60 26 := fun v u x => by rw [zq_u_ne (by omega), zq_u_ne (by omega), zq_u_kn (by omega)]
  have e4 : ∀ v u x, zm_tr (zq_u (zq_u (zq_u H 60 25 v) 74 w u) 75 w x) = zm_tr H := fun v u x => zm_tr_fr (by rw [zq_u_ne (by omega), zq_u_ne (by omega), zq_u_ne (by omega)]) (by rw [zq_u_ne (by omega), zq_u_ne (by omega), zq_u_ne (by omega)])
  simp only [zr174_0, zr174_1, zr174_4, zr174_5, zr174_6, zr174_7, zr174_8, zr174_9, zr174_12, zr174_13, zr174_14, zr174_17, zr174_18, zr174_21, zr174_22, zr174_23, zr174_26, zr174_27, zr174_28, zr174_29, zr174_30, zr174_33, zr174_34, zr174_35, zr174_36, zr174_37, zr174_38, zr174_39, zr174_40, zr174_41, zr174_44, zr174_45, zr174_46, zr174_49, zr174_50, zr174_53, zs_m0 N, zs_m1 N, zs_m2 N, zh_m0 ca cb cs, zq_kill_int, zq_kill_ref, zq_kill_ret, zq_kill_null, zq_kill_long, zq_rf_some, zq_rf_none, true_and, and_true, true_implies, not_true_eq_false, not_false_eq_true, false_implies, Bool.true_eq_false, Bool.false_eq_true, nI_1, zb_i0, zb_i1, zb_i2, Option.toList_some, Option.toList_none, List.cons_append, List.nil_append, true_or, or_true, implies_true, zb_it, zb_if, zb_10, zb_00, zb_n5, zb_n2, zb_m1, zb_m3, zb_m9, or_true, true_or, or_false, false_or, x1, x2, h80, y1, y2, e1, e2, e3, k_M_troubleOf hw, e4, mtb]
/-- the next way that may be taken -/
def nxw (ok : Nat → Bool) (W : Nat) : Nat → Nat
  | 0 => W
  | m + 1 => if ok (W - (m + 1)) = true then W - (m + 1) else nxw ok W m
theorem nxw_s (ok : Nat → Bool) (W m : Nat) : nxw ok W (m + 1) = if ok (W - (m + 1)) = true then W - (m + 1) else nxw ok W m := rfl
theorem nxw_spec {ok : Nat → Bool} {W : Nat} : ∀ m, m ≤ W → (W - m ≤ nxw ok W m ∧ nxw ok W m ≤ W) ∧ (∀ w, W - m ≤ w → w < nxw ok W m → ok w = false) ∧ (nxw ok W m < W → ok (nxw ok W m) = true) := by
  intro m
  induction m with
  | zero => intro _; exact ⟨⟨by simp [nxw], by simp [nxw]⟩, fun w h1 h2 => by simp [nxw] at h2; omega, fun h => by simp [nxw] at h⟩
  | succ m ih =>
    intro hm
    obtain ⟨⟨h1, h2⟩, h3, h4⟩ := ih (by omega)
    unfold nxw
    by_cases e : ok (W - (m + 1)) = true
    · rw [if_pos e]
      exact ⟨⟨Nat.le_refl _, by omega⟩, fun w q1 q2 => by omega, fun _ => e⟩
    · rw [if_neg e]
      refine ⟨⟨by omega, h2⟩, fun w q1 q2 => ?_, h4⟩
      by_cases q : w = W - (m + 1)
      · rw [q]; simpa using e
      · exact h3 w (by omega) q2
theorem k_M_nextWay (hM : Mok W P t M) : ∀ m, m ≤ W → ∀ v : Value, zq_P (d + 4) 173 2 [.ref 60, v, .int may, .int (nI (W - m))] [] (zq_SG N, M, hl, zq_HR ca cb cs) Q = Q (some (.int (nI (nxw (okm W P may M) W m)))) (zq_SG N, M, hl, zq_HR ca cb cs) := by
  obtain ⟨⟨h1, h2, h3, h4⟩, h5, h6⟩ := hM
  have hcan : ∀ w, zm_can M W (zb_set (zm_away M (M 60 25)) P) w = cano M W P w := fun w => rfl
  intro m
  induction m with
  | zero =>
    intro _ v
    have q3 : (nI (W - 0) < nI W) = False := eq_false (nI_nlt (by omega) (by omega))
    rw [zr173_2]
    simp only [zr173_0, zr173_1, zr173_3, zr173_4, zr173_7, zr173_10, zr173_11, zr173_12, zr173_15, zr173_16, zr173_17, zr173_18, zr173_19, zr173_22, zr173_23, zr173_24, zr173_27, zr173_30, zr173_33, zr173_36, zr173_37, zs_m0 N, zs_m1 N, zs_m2 N, zh_m0 ca cb cs, zq_kill_int, zq_kill_ref, zq_kill_ret, zq_kill_null, zq_kill_long, zq_rf_some, zq_rf_none, true_and, and_true, true_implies, not_true_eq_false, not_false_eq_true, false_implies, Bool.true_eq_false, Bool.false_eq_true, nI_1, zb_i0, zb_i1, zb_i2, Option.toList_some, Option.toList_none, List.cons_append, List.nil_append, true_or, or_true, implies_true, zb_it, zb_if, zb_10, zb_00, zb_n5, zb_n2, zb_m1, zb_m3, zb_m9, or_true, true_or, or_false, false_or, h1, q3, nxw, Nat.sub_zero]
    simp [nI_nlt (Nat.le_refl W) (by omega : W < 2 ^ 31)]
  | succ m ih =>
    intro hm v
    have q3 : (nI (W - (m + 1)) < nI W) = True := eq_true ((nI_ltI (by omega) (by omega)).mpr (by omega))
    have q4 : nI (W - (m + 1)) + 1 = nI (W - m) := by rw [nI_1]; congr 1; omega
    have w7 : W - (m + 1) < 7 := by omega
    rw [zr173_2]
    simp only [zr173_0, zr173_1, zr173_3, zr173_4, zr173_7, zr173_10, zr173_11, zr173_12, zr173_15, zr173_16, zr173_17, zr173_18, zr173_19, zr173_22, zr173_23, zr173_24, zr173_27, zr173_30, zr173_33, zr173_36, zr173_37, zs_m0 N, zs_m1 N, zs_m2 N, zh_m0 ca cb cs, zq_kill_int, zq_kill_ref, zq_kill_ret, zq_rf_some, true_and, and_true, true_implies, not_true_eq_false, not_false_eq_true, false_implies, Option.toList_some, List.cons_append, List.nil_append, h1, q3, q4, k_M_needs w7, k_M_canDo h1 h2 w7 h3 h4 h5, hcan, zb_i0, ih (by omega)]
    rw [nxw_s]
    have eo : okm W P may M (W - (m + 1)) = (decide (zm_needs M (W - (m + 1)) &&& (may ^^^ (-1)) = 0) && cano M W P (W - (m + 1))) := rfl
    rw [eo]
    by_cases b1 : zm_needs M (W - (m + 1)) &&& (may ^^^ (-1)) = 0 <;> cases b2 : cano M W P (W - (m + 1)) <;> simp only [b1, true_implies, not_true_eq_false, false_implies, and_true, true_and, not_false_eq_true, decide_true, decide_false, Bool.and_true, Bool.and_false, Bool.true_and, Bool.false_and, if_true, Bool.false_eq_true, if_false, Bool.true_eq_false, implies_true, and_self]
theorem k_M_copies {A B : Nat} (h1 : zq_aS (zq_SG N) A ∧ zq_ln (zq_SG N) A = 7) (h2 : zq_aW (zq_SG N) B ∧ zq_ln (zq_SG N) B = 7) (hAB : A ≠ B) : zq_P d 172 0 [.ref A, .ref B, .retAddr 0] [] (zq_SG N, hi, hl, zq_HR ca cb cs) Q = Q none (zq_SG N, zq_w hi B (va_cpy (hi A) (hi B) 0 0 7), hl, zq_HR ca cb cs) := by
  have loop := zq_loop (n := 7) (f := fun k => zq_P d 172 2 [.ref A, .ref B, .int (nI k)] [] (zq_SG N, zq_w hi B (va_cpy (hi A) (hi B) 0 0 k), hl, zq_HR ca cb cs) Q) fun k hk => by
    have x1 : zq_xS (nI k) 7 := zb_x (by omega) (by omega)
    have x2 : (nI k).toNatClampNeg = k := zb_cl (by omega)
    have e1 : ∀ f, zq_w hi B f A = hi A := fun f => zq_w_ne hAB
    have e := cpy_s (f := hi A) (g := hi B) (sp := 0) (dp := 0) (k := k)
    rw [Nat.zero_add] at e
    rw [zr172_2]
    simp only [zr172_0, zr172_1, zr172_3, zr172_5, zr172_8, zr172_9, zr172_10, zr172_11, zr172_12, zr172_13, zr172_14, zr172_17, zr172_20, h1, h2, zq_kill_int, zq_kill_ref, zq_kill_ret, zq_kill_null, zq_kill_long, zq_rf_some, zq_rf_none, true_and, and_true, true_implies, not_true_eq_false, not_false_eq_true, false_implies, Bool.true_eq_false, Bool.false_eq_true, nI_1, zb_i0, zb_i1, zb_i2, Option.toList_some, Option.toList_none, List.cons_append, List.nil_append, true_or, or_true, implies_true, zb_it, zb_if, zb_10, zb_00, zb_n5, zb_n2, zb_m1, zb_m3, zb_m9, or_true, true_or, or_false, false_or, zb_7n hk, x1, x2, e1, zq_w_u, e]
  have f7 : (nI 7 < 7) = False := eq_false (by decide)
  rw [cpy_0, zq_w_self] at loop
  simp only [zr172_0, zr172_1, zr172_3, zr172_5, zr172_8, zr172_9, zr172_10, zr172_11, zr172_12, zr172_13, zr172_14, zr172_17, zr172_20, zq_kill_int, zq_kill_ref, zq_kill_ret, zq_kill_null, zq_kill_long, zq_rf_some, zq_rf_none, true_and, and_true, true_implies, not_true_eq_false, not_false_eq_true, false_implies, Bool.true_eq_false, Bool.false_eq_true, nI_1, zb_i0, zb_i1, zb_i2, Option.toList_some, Option.toList_none, List.cons_append, List.nil_append, true_or, or_true, implies_true, zb_it, zb_if, zb_10, zb_00, zb_n5, zb_n2, zb_m1, zb_m3, zb_m9, or_true, true_or, or_false, false_or]
  refine Eq.trans loop ?_
  rw [zr172_2]
  simp only [zr172_0, zr172_1, zr172_3, zr172_5, zr172_8, zr172_9, zr172_10, zr172_11, zr172_12, zr172_13, zr172_14, zr172_17, zr172_20, zq_kill_int, zq_kill_ref, zq_kill_ret, zq_kill_null, zq_kill_long, zq_rf_some, zq_rf_none, true_and, and_true, true_implies, not_true_eq_false, not_false_eq_true, false_implies, Bool.true_eq_false, Bool.false_eq_true, nI_1, zb_i0, zb_i1, zb_i2, Option.toList_some, Option.toList_none, List.cons_append, List.nil_append, true_or, or_true, implies_true, zb_it, zb_if, zb_10, zb_00, zb_n5, zb_n2, zb_m1, zb_m3, zb_m9, or_true, true_or, or_false, false_or, f7]
end Z49
