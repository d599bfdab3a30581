/-! The script is never written -/
def kpt (g g2 : zq_G) : Prop := g2.2.1 1000 = g.2.1 1000 ∧ g2.1.1 ≤ 1000
theorem zq_putf_kp {y k : Nat} {L st L2 st2 : List Value} {g g2 : zq_G} (hg : g.1.1 ≤ 1000) (h : zq_putf y k L st g = some (L2, st2, g2)) : kpt g g2 := by
  unfold zq_putf at h
  split at h
  · split at h
    · split at h
      · rename_i hc
        have ha := hc.1.1
        split at h
        · rename_i g3 hp
          cases h
          unfold zq_pv at hp
          split at hp
          · cases hp
            exact ⟨zq_u_ne (by omega), hg⟩
          · cases hp; exact ⟨rfl, hg⟩
          · cases hp; exact ⟨rfl, hg⟩
          · cases hp
        · cases h
      · cases h
    · cases h
  · cases h
theorem zq_nc_kp {g : zq_G} {sh : Nat × Nat} {n : Nat} (h : g.1.1 < 1000) : kpt g (zq_nc g sh n) := ⟨zq_w_ne (by omega), h⟩
theorem zq_sta_kp {y k : Nat} {L st L2 st2 : List Value} {g g2 : zq_G} (hg : g.1.1 ≤ 1000) (h : zq_sta y k L st g = some (L2, st2, g2)) : kpt g g2 := by
  unfold zq_sta at h
  split at h
  · split at h
    · unfold zq_copy at h
      split at h
      · split at h
        · rename_i hc
          cases h
          exact ⟨zq_w_ne (fun q => hc.1.2.1 q.symm), hg⟩
        · cases h
      · cases h
    · unfold zq_mm at h
      split at h
      · split at h
        · cases h; exact ⟨rfl, hg⟩
        · cases h
      · cases h
    · unfold zq_mm at h
      split at h
      · split at h
        · cases h; exact ⟨rfl, hg⟩
        · cases h
      · cases h
    · cases h
  · cases h
theorem zq_op_kp {y : Nat} {i : Instr} {L st L2 st2 : List Value} {g g2 : zq_G} (hg : g.1.1 ≤ 1000) (h : zq_op y i L st g = some (L2, st2, g2)) : kpt g g2 := by
  unfold zq_op at h
  split at h
  all_goals first
    | exact zq_putf_kp hg h
    | exact zq_sta_kp hg h
    | (cases h; exact ⟨rfl, hg⟩)
    | (obtain ⟨q, hq, h⟩ := Option.map_eq_some_iff.mp h; cases h; exact ⟨rfl, hg⟩)
    | (obtain ⟨x, hv, rfl, rfl, rfl⟩ := zq_pi_inv h; exact ⟨rfl, hg⟩)
    | (obtain ⟨x, hv, rfl, rfl, rfl⟩ := zq_pl_inv h; exact ⟨rfl, hg⟩)
    | (obtain ⟨hv, rfl, rfl, rfl⟩ := zq_pa_inv h; exact ⟨rfl, hg⟩)
    | (obtain ⟨x, rfl, hk, rfl, rfl⟩ := zq_si_inv h; exact ⟨rfl, hg⟩)
    | (obtain ⟨x, rfl, hk, rfl, rfl⟩ := zq_sl_inv h; exact ⟨rfl, hg⟩)
    | (obtain ⟨v, hv, rfl, hk, rfl, rfl⟩ := zq_sa_inv h; exact ⟨rfl, hg⟩)
    | (obtain ⟨_, _, _, rfl, rfl, rfl, rfl⟩ := zq_ii_inv h; exact ⟨rfl, hg⟩)
    | (obtain ⟨_, _, _, hy, rfl, rfl, rfl, rfl⟩ := zq_id_inv h; exact ⟨rfl, hg⟩)
    | (obtain ⟨_, _, _, rfl, rfl, rfl, rfl⟩ := zq_jj_inv h; exact ⟨rfl, hg⟩)
    | (obtain ⟨_, _, _, hy, rfl, rfl, rfl, rfl⟩ := zq_jd_inv h; exact ⟨rfl, hg⟩)
    | (exact absurd h (by intro q; cases q))
    | (unfold zq_getf at h; split at h; (split at h; (split at h; (cases h; exact ⟨rfl, hg⟩); cases h); cases h); cases h)
    | (unfold zq_newo at h; split at h; (split at h; (rename_i hc; cases h; exact zq_nc_kp hc); cases h); cases h)
    | (unfold zq_newa at h; split at h; (split at h; (rename_i hc; cases h; exact zq_nc_kp hc.1); cases h); cases h)
    | (unfold zq_newq at h; split at h; (split at h; (split at h; (rename_i hc; cases h; exact zq_nc_kp hc.2.1); cases h); cases h); cases h)
    | (unfold zq_iast at h; split at h; (split at h; (rename_i hc; cases h; exact ⟨zq_u_ne (fun q => hc.2.1 q.symm), hg⟩); cases h); cases h)
    | (unfold zq_iald at h; split at h; (split at h; (cases h; exact ⟨rfl, hg⟩); cases h); cases h)
    | (unfold zq_aald at h; split at h; (split at h; (cases h; exact ⟨rfl, hg⟩); cases h); cases h)
    | (unfold zq_aast at h; split at h; (split at h; (cases h; exact ⟨rfl, hg⟩); cases h); cases h)
    | (unfold zq_alen at h; split at h; (split at h; (cases h; exact ⟨rfl, hg⟩); (split at h; (cases h; exact ⟨rfl, hg⟩); cases h)); cases h)
    | (unfold zq_spe at h; split at h; (split at h; (split at h; (split at h; (cases h; exact ⟨rfl, hg⟩); cases h); cases h); cases h); cases h)
    | (split at h
       · first
         | (cases h; exact ⟨rfl, hg⟩)
         | (split at h
            · cases h; exact ⟨rfl, hg⟩
            · cases h)
       · cases h)
theorem kpt_tr {a b c : zq_G} (h1 : kpt a b) (h2 : kpt b c) : kpt a c := ⟨h2.1.trans h1.1, h2.2⟩
theorem zq_run_kp {c1 : Nat → List Value → zq_G → zq_A} {y : Nat} (hc : ∀ z as g v g2, g.1.1 ≤ 1000 → c1 z as g = some (v, g2) → kpt g g2) : ∀ (f pc : Nat) (L st : List Value) (g : zq_G) (v : Option Value) (g2 : zq_G), g.1.1 ≤ 1000 → zq_run c1 y f pc L st g = some (v, g2) → kpt g g2 := by
  intro f
  induction f with
  | zero => intro pc L st g v g2 _ h; cases h
  | succ f ih =>
    intro pc L st g v g2 hg h
    unfold zq_run at h
    split at h
    · cases h
    · split at h
      · rename_i L2 st2 g3 ho
        have k := zq_op_kp hg ho
        exact kpt_tr k (ih _ _ _ _ _ _ k.2 h)
      · split at h
        · exact ih _ _ _ _ _ _ hg h
        · split at h
          · cases h
            exact ⟨rfl, hg⟩
          · split at h
            · split at h
              · rename_i v2 g3 hz
                have k := hc _ _ _ _ _ hg hz
                exact kpt_tr k (ih _ _ _ _ _ _ k.2 h)
              · cases h
            · cases h
theorem zq_ev_kp : ∀ (d F z : Nat) (as : List Value) (g : zq_G) (v : Option Value) (g2 : zq_G), g.1.1 ≤ 1000 → zq_ev d F z as g = some (v, g2) → kpt g g2 := by
  intro d
  induction d with
  | zero => intro F z as g v g2 _ h; cases h
  | succ d ih =>
    intro F z as g v g2 hg h
    unfold zq_ev at h
    split at h
    · exact zq_run_kp (fun z as g v g2 q0 q1 => ih F z as g v g2 q0 q1) _ _ _ _ _ _ _ hg h
    · cases h
/-- so a method that ends as it says leaves the script alone -/
theorem zq_P_kp {d y pc : Nat} {L st : List Value} {g g1 : zq_G} {v : Option Value} (hg : g.1.1 ≤ 1000) (h : ∀ Q, zq_P d y pc L st g Q = Q v g1) : g1.2.1 1000 = g.2.1 1000 := by
  have t : zq_P d y pc L st g (fun _ _ => True) := by rw [h]; trivial
  obtain ⟨F, f, v2, g2, e, -⟩ := t
  have k : zq_P d y pc L st g (fun _ g' => kpt g g') := ⟨F, f, v2, g2, e, zq_run_kp (fun z as g v g2 q0 q1 => zq_ev_kp d F z as g v g2 q0 q1) _ _ _ _ _ _ _ hg e⟩
  rw [h] at k
  exact k.1
/-- deeper is no less -/
theorem zq_ev_dup : ∀ (d F z : Nat) (as : List Value) (g : zq_G) (x : Option Value × zq_G), zq_ev d F z as g = some x → zq_ev (d + 1) F z as g = some x := by
  intro d
  induction d with
  | zero => intro F z as g x h; cases h
  | succ d ih =>
    intro F z as g x h
    unfold zq_ev at h
    rw [show zq_ev (d + 1 + 1) F z as g = if (zq_fl2 as).length ≤ zq_ml z then zq_run (zq_ev (d + 1) F) z F 0 (zq_ent z as) [] g else none from rfl]
    split at h
    · rename_i hl
      rw [if_pos hl]
      exact zq_run_up (fun z as g x q => ih F z as g x q) F F _ _ _ _ _ (Nat.le_refl _) h
    · cases h
theorem zq_ev_dle {d e F z : Nat} {as : List Value} {g : zq_G} {x : Option Value × zq_G} (h : zq_ev d F z as g = some x) (k : Nat) (hk : d + k = e) : zq_ev e F z as g = some x := by
  subst hk
  induction k with
  | zero => exact h
  | succ k ih => exact zq_ev_dup _ _ _ _ _ _ ih
theorem zq_P_of_ev {d d2 F y : Nat} {as : List Value} {g g2 : zq_G} {v : Option Value} {Q : Option Value → zq_G → Prop} (h : zq_ev (d + 1) F y as g = some (v, g2)) (hd : d ≤ d2) (hq : Q v g2) : zq_P d2 y 0 (zq_ent y as) [] g Q := by
  unfold zq_ev at h
  split at h
  · exact ⟨F, F, v, g2, zq_run_up (fun z as g x q => zq_ev_dle q (d2 - d) (by omega)) F F _ _ _ _ _ (Nat.le_refl _) h, hq⟩
  · cases h
