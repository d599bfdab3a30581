/-! What the small machine comes to, without its clock: zq_P d y pc L st g Q: from here the method ends with an answer and a heap of which Q holds -/
theorem zq_run_up {c1 c2 : Nat → List Value → zq_G → zq_A} {y : Nat} (hc : ∀ z as g x, c1 z as g = some x → c2 z as g = some x) : ∀ (f f2 pc : Nat) (L st : List Value) (g : zq_G) (x : Option Value × zq_G), f ≤ f2 → zq_run c1 y f pc L st g = some x → zq_run c2 y f2 pc L st g = some x := by
  intro f
  induction f with
  | zero => intro f2 pc L st g x _ h; cases h
  | succ f ih =>
    intro f2 pc L st g x hf h
    obtain ⟨k, rfl⟩ : ∃ k, f2 = k + 1 := ⟨f2 - 1, by omega⟩
    unfold zq_run at h ⊢
    split at h
    · cases h
    · split at h
      · exact ih _ _ _ _ _ _ (by omega) h
      · split at h
        · exact ih _ _ _ _ _ _ (by omega) h
        · split at h
          · exact h
          · split at h
            · rename_i z as r _
              split at h
              · rename_i v g2 hz
                have hz2 := hc _ _ _ _ hz
                simp only [hz2]
                exact ih _ _ _ _ _ _ (by omega) h
              · cases h
            · cases h
theorem zq_ev_up : ∀ (d F F2 z : Nat) (as : List Value) (g : zq_G) (x : Option Value × zq_G), F ≤ F2 → zq_ev d F z as g = some x → zq_ev d F2 z as g = some x := by
  intro d
  induction d with
  | zero => intro F F2 z as g x _ h; cases h
  | succ d ih =>
    intro F F2 z as g x hF h
    unfold zq_ev at h ⊢
    split at h
    · rename_i hl
      rw [if_pos hl]
      exact zq_run_up (fun z as g x h => ih F F2 z as g x hF h) F F2 _ _ _ _ _ hF h
    · cases h
def zq_P (d y pc : Nat) (L st : List Value) (g : zq_G) (Q : Option Value → zq_G → Prop) : Prop := ∃ (F f : Nat) (v : Option Value) (g2 : zq_G), zq_run (zq_ev d F) y f pc L st g = some (v, g2) ∧ Q v g2
theorem zq_P_op {d y pc : Nat} {L st L2 st2 : List Value} {g g2 : zq_G} {Q : Option Value → zq_G → Prop} {i : Instr} {len : Nat} (hc : zq_cd y pc = some (i, len)) (ho : zq_op y i L st g = some (L2, st2, g2)) : zq_P d y pc L st g Q = zq_P d y (pc + len) L2 st2 g2 Q := by
  apply propext
  constructor
  · rintro ⟨F, f, v, g3, h, hq⟩
    cases f with
    | zero => cases h
    | succ f =>
      unfold zq_run at h
      simp only [hc, ho] at h
      exact ⟨F, f, v, g3, h, hq⟩
  · rintro ⟨F, f, v, g3, h, hq⟩
    refine ⟨F, f + 1, v, g3, ?_, hq⟩
    unfold zq_run
    simp only [hc, ho]
    exact h
theorem zq_P_no {d y pc : Nat} {L st : List Value} {g : zq_G} {Q : Option Value → zq_G → Prop} {i : Instr} {len : Nat} (hc : zq_cd y pc = some (i, len)) (ho : zq_op y i L st g = none) (hj : zq_jmp pc i st = none) (hr : zq_ret y i st = none) (hi : zq_inv y i st g = none) : zq_P d y pc L st g Q = False := by
  apply propext
  constructor
  · rintro ⟨F, f, v, g3, h, hq⟩
    cases f with
    | zero => cases h
    | succ f =>
      unfold zq_run at h
      simp only [hc, ho, hj, hr, hi] at h
      cases h
  · exact False.elim
theorem zq_P_jmp {d y pc t : Nat} {L st st2 : List Value} {g : zq_G} {Q : Option Value → zq_G → Prop} {i : Instr} {len : Nat} (hc : zq_cd y pc = some (i, len)) (ho : zq_op y i L st g = none) (hj : zq_jmp pc i st = some (t, st2)) : zq_P d y pc L st g Q = zq_P d y t L st2 g Q := by
  apply propext
  constructor
  · rintro ⟨F, f, v, g3, h, hq⟩
    cases f with
    | zero => cases h
    | succ f =>
      unfold zq_run at h
      simp only [hc, ho, hj] at h
      exact ⟨F, f, v, g3, h, hq⟩
  · rintro ⟨F, f, v, g3, h, hq⟩
    refine ⟨F, f + 1, v, g3, ?_, hq⟩
    unfold zq_run
    simp only [hc, ho, hj]
    exact h
theorem zq_P_ret {d y pc : Nat} {L st : List Value} {g : zq_G} {Q : Option Value → zq_G → Prop} {i : Instr} {len : Nat} {v : Option Value} (hc : zq_cd y pc = some (i, len)) (ho : zq_op y i L st g = none) (hj : zq_jmp pc i st = none) (hr : zq_ret y i st = some v) : zq_P d y pc L st g Q = Q v g := by
  apply propext
  constructor
  · rintro ⟨F, f, v, g3, h, hq⟩
    cases f with
    | zero => cases h
    | succ f =>
      unfold zq_run at h
      simp only [hc, ho, hj, hr] at h
      cases h
      exact hq
  · intro hq
    refine ⟨0, 1, v, g, ?_, hq⟩
    unfold zq_run
    simp only [hc, ho, hj, hr]
theorem zq_P_inv {d y pc : Nat} {L st : List Value} {g : zq_G} {Q : Option Value → zq_G → Prop} {i : Instr} {len z : Nat} {as r : List Value} (hc : zq_cd y pc = some (i, len)) (ho : zq_op y i L st g = none) (hj : zq_jmp pc i st = none) (hr : zq_ret y i st = none) (hi : zq_inv y i st g = some (z, as, r)) (hl : (zq_fl2 as).length ≤ zq_ml z) :
    zq_P (d + 1) y pc L st g Q = zq_P d z 0 (zq_ent z as) [] g (fun v g2 => zq_P (d + 1) y (pc + 3) L (v.toList ++ r) g2 Q) := by
  apply propext
  constructor
  · rintro ⟨F, f, v, g3, h, hq⟩
    cases f with
    | zero => cases h
    | succ f =>
      unfold zq_run at h
      simp only [hc, ho, hj, hr, hi] at h
      split at h
      · rename_i v2 g2 hz
        unfold zq_ev at hz
        rw [if_pos hl] at hz
        exact ⟨F, F, v2, g2, hz, F, f, v, g3, h, hq⟩
      · cases h
  · rintro ⟨F1, f1, v1, g1, h1, F2, f2, v, g3, h2, hq⟩
    have a1 : zq_ev (d + 1) (F1 + f1 + F2) z as g = some (v1, g1) := by
      unfold zq_ev
      rw [if_pos hl]
      exact zq_run_up (fun z as g x h => zq_ev_up d F1 (F1 + f1 + F2) z as g x (by omega) h) f1 (F1 + f1 + F2) _ _ _ _ _ (by omega) h1
    have a2 := zq_run_up (fun z as g x h => zq_ev_up (d + 1) F2 (F1 + f1 + F2) z as g x (by omega) h) f2 f2 _ _ _ _ _ (Nat.le_refl _) h2
    refine ⟨F1 + f1 + F2, f2 + 1, v, g3, ?_, hq⟩
    unfold zq_run
    simp only [hc, ho, hj, hr, hi, a1]
    exact a2
/-- a method's answer by the small machine, from zq_P -/
theorem zq_P_ev {d y : Nat} {as : List Value} {g : zq_G} {Q : Option Value → zq_G → Prop} (hl : (zq_fl2 as).length ≤ zq_ml y) (h : zq_P d y 0 (zq_ent y as) [] g Q) : ∃ (F : Nat) (v : Option Value) (g2 : zq_G), zq_ev (d + 1) F y as g = some (v, g2) ∧ Q v g2 := by
  obtain ⟨F, f, v, g2, h, hq⟩ := h
  refine ⟨F + f, v, g2, ?_, hq⟩
  unfold zq_ev
  rw [if_pos hl]
  exact zq_run_up (fun z as g x h => zq_ev_up d F (F + f) z as g x (by omega) h) f (F + f) _ _ _ _ _ (by omega) h
theorem zq_loop {f : Nat → Prop} {n : Nat} (h : ∀ k, k < n → f k = f (k + 1)) : f 0 = f n := by
  induction n with
  | zero => rfl
  | succ n ih => rw [ih (fun k hk => h k (by omega)), h n (by omega)]
theorem zq_P_mono {d y pc : Nat} {L st : List Value} {g : zq_G} {Q Q2 : Option Value → zq_G → Prop} (h : zq_P d y pc L st g Q) (hq : ∀ v g2, Q v g2 → Q2 v g2) : zq_P d y pc L st g Q2 := by
  obtain ⟨F, f, v, g2, h, q⟩ := h
  exact ⟨F, f, v, g2, h, hq v g2 q⟩
