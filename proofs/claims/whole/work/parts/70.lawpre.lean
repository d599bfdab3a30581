/-! What the law needs -/
theorem zq_ret_int {y : Nat} {i : Instr} {st : List Value} {v : Option Value} (h : zq_ret y i st = some v) : (zq_rt y = some .int → ∃ x, v = some (.int x)) ∧ (zq_rt y = some .long → ∃ x, v = some (.long x)) := by
  unfold zq_ret at h
  split at h
  · split at h
    · split at h
      · cases h; rename_i ht; exact ⟨fun _ => ⟨_, rfl⟩, fun q => (by rw [ht] at q; cases q)⟩
      · rename_i ht; exact ⟨fun q => (by rw [ht] at q; cases q), fun q => (by rw [ht] at q; cases q)⟩
      · cases h
    · cases h
  · split at h
    · split at h
      · cases h; rename_i ht; exact ⟨fun q => (by rw [ht] at q; cases q), fun _ => ⟨_, rfl⟩⟩
      · cases h
    · cases h
  · split at h
    · rename_i t ht
      split at h
      · rename_i hk
        exact ⟨fun q => (by rw [ht] at q; cases q; exact absurd hk (by decide)), fun q => (by rw [ht] at q; cases q; exact absurd hk (by decide))⟩
      · cases h
    · cases h
  · split at h
    · split at h
      · rename_i ht; exact ⟨fun q => (by rw [ht] at q; cases q), fun q => (by rw [ht] at q; cases q)⟩
      · cases h
    · cases h
  · cases h
theorem zq_run_rt {c1 : Nat → List Value → zq_G → zq_A} {y : Nat} : ∀ (f pc : Nat) (L st : List Value) (g : zq_G) (v : Option Value) (g2 : zq_G), zq_run c1 y f pc L st g = some (v, g2) → (zq_rt y = some .int → ∃ x, v = some (.int x)) ∧ (zq_rt y = some .long → ∃ x, v = some (.long x)) := by
  intro f
  induction f with
  | zero => intro pc L st g v g2 h; cases h
  | succ f ih =>
    intro pc L st g v g2 h
    unfold zq_run at h
    split at h
    · cases h
    · split at h
      · exact ih _ _ _ _ _ _ h
      · split at h
        · exact ih _ _ _ _ _ _ h
        · split at h
          · rename_i hr
            cases h
            exact zq_ret_int hr
          · split at h
            · split at h
              · exact ih _ _ _ _ _ _ h
              · cases h
            · cases h
theorem zq_P_rt {d y pc : Nat} {L st : List Value} {g g1 : zq_G} {v : Option Value} (h : ∀ Q, zq_P d y pc L st g Q = Q v g1) : (zq_rt y = some .int → ∃ x, v = some (.int x)) ∧ (zq_rt y = some .long → ∃ x, v = some (.long x)) := by
  have t : zq_P d y pc L st g (fun _ _ => True) := by rw [h]; trivial
  obtain ⟨F, f, v2, g2, e, -⟩ := t
  have k : zq_P d y pc L st g (fun v' _ => (zq_rt y = some .int → ∃ x, v' = some (.int x)) ∧ (zq_rt y = some .long → ∃ x, v' = some (.long x))) := ⟨F, f, v2, g2, e, zq_run_rt _ _ _ _ _ _ _ e⟩
  rw [h] at k
  exact k
theorem zq_P_int {d y pc : Nat} {L st : List Value} {g g1 : zq_G} {v : Value} (ht : zq_rt y = some .int) (h : ∀ Q, zq_P d y pc L st g Q = Q (some v) g1) : ∃ x : Int32, v = .int x := by
  obtain ⟨x, e⟩ := (zq_P_rt h).1 ht
  exact ⟨x, Option.some.inj e⟩
theorem zq_P_lng {d y pc : Nat} {L st : List Value} {g g1 : zq_G} {v : Value} (ht : zq_rt y = some .long) (h : ∀ Q, zq_P d y pc L st g Q = Q (some v) g1) : ∃ x : Int64, v = .long x := by
  obtain ⟨x, e⟩ := (zq_P_rt h).2 ht
  exact ⟨x, Option.some.inj e⟩
theorem zb_p4 (i : Nat) : nI i + 4 = nI (i + 4) := nI_add i 4
theorem zb_p5 (i : Nat) : nI i + 5 = nI (i + 5) := nI_add i 5
theorem zb_p6 (i : Nat) : nI i + 6 = nI (i + 6) := nI_add i 6
theorem lg_cmp_self (x : Int64) : (lg_cmp x x = 0) = True := eq_true ((lg_cmp_eq x x).mpr rfl)
theorem zq_SG_le {N : Nat} : (zq_SG N).1 ≤ 1000 := Nat.le_of_ble_eq_true rfl
/-- a call of the script: from its case to the end of the round -/
def law_st (N ca cb cs : Nat) (hi : zq_I) (hl : zq_J) (i pc : Nat) : Prop := ∃ (hi2 : zq_I) (hl2 : zq_J) (ca2 cb2 cs2 W2 P2 D2 : Nat), hi2 1000 = hi 1000 ∧ Sim hi2 hl2 ca2 cb2 cs2 W2 P2 D2 ∧ ∀ Q, zq_P 59 0 pc [.ref 1000, .ref 0, .ref 60, .int (nI i)] [] (zq_SG N, hi, hl, zq_HR ca cb cs) Q = zq_P 59 0 1224 [.ref 1000, .ref 0, .ref 60, .int (nI i)] [] (zq_SG N, hi2, hl2, zq_HR ca2 cb2 cs2) Q
