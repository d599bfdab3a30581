/-! The two constructors, by running them without a script; then the script laid over it -/
def zq_ov (N : Nat) (xs : Nat → Int32) (g : zq_G) : zq_G := ((g.1.1, g.1.2.1, fun a => if a = 1000 then (0, N) else g.1.2.2 a), (fun a => if a = 1000 then xs else g.2.1 a), g.2.2.1, g.2.2.2)
def zq_og (g : zq_G) : Prop := g.1.1 ≤ 1000 ∧ g.1.2.2 1000 = (9, 0)
theorem zq_ov_sh {N : Nat} {xs : Nat → Int32} {g : zq_G} {a : Nat} (h : a ≠ 1000) : (zq_ov N xs g).1.2.2 a = g.1.2.2 a := if_neg h
theorem zq_ov_hi {N : Nat} {xs : Nat → Int32} {g : zq_G} {a : Nat} (h : a ≠ 1000) : (zq_ov N xs g).2.1 a = g.2.1 a := if_neg h
theorem zq_ov_gv {N : Nat} {xs : Nat → Int32} {g : zq_G} {c k a : Nat} (h : a ≠ 1000) : zq_gv c k a (zq_ov N xs g) = zq_gv c k a g := by
  unfold zq_gv
  rw [zq_ov_hi h]
  rfl
theorem zq_ov_u {N : Nat} {xs : Nat → Int32} {g : zq_G} {a k : Nat} {v : Int32} (h : a ≠ 1000) : zq_ov N xs (g.1, zq_u g.2.1 a k v, g.2.2.1, g.2.2.2) = ((zq_ov N xs g).1, zq_u (zq_ov N xs g).2.1 a k v, g.2.2.1, g.2.2.2) := by
  unfold zq_ov
  congr 2
  funext x j
  by_cases hx : x = 1000
  · subst hx
    simp only [if_pos]
    rw [zq_u_ne (Ne.symm h)]
    simp
  · simp only [if_neg hx]
    unfold zq_u
    simp [hx]
theorem zq_ov_pv {N : Nat} {xs : Nat → Int32} {c k a : Nat} {v : Value} {g g2 : zq_G} (h : a ≠ 1000) (hp : zq_pv c k a v g = some g2) : zq_pv c k a v (zq_ov N xs g) = some (zq_ov N xs g2) := by
  unfold zq_pv at hp ⊢
  split at hp
  · rename_i x hf
    cases hp
    rw [zq_ov_u h]
    rfl
  · cases hp
    rfl
  · cases hp
    rfl
  · cases hp
theorem zq_ov_nc {N : Nat} {xs : Nat → Int32} {g : zq_G} {sh : Nat × Nat} {n : Nat} (h : g.1.1 < 1000) : zq_ov N xs (zq_nc g sh n) = zq_nc (zq_ov N xs g) sh n := by
  have hn : (1000 : Nat) ≠ g.1.1 := by omega
  unfold zq_ov zq_nc
  refine Prod.ext (Prod.ext rfl (Prod.ext rfl ?_)) (Prod.ext ?_ rfl)
  · funext x
    by_cases hx : x = 1000
    · subst hx; simp [hn]
    · by_cases hx2 : x = g.1.1 <;> simp [hx, hx2]
      omega
  · funext x
    by_cases hx : x = 1000
    · subst hx
      simp only [if_pos]
      rw [zq_w_ne hn]
      simp
    · simp only [if_neg hx]
      by_cases hx2 : x = g.1.1
      · subst hx2; rw [zq_w_eq, zq_w_eq]
      · rw [zq_w_ne hx2, zq_w_ne hx2]
        simp [hx]
theorem zq_og_nc {g : zq_G} {sh : Nat × Nat} {n : Nat} (hg : zq_og g) (h : g.1.1 < 1000) : zq_og (zq_nc g sh n) := ⟨h, by show (if 1000 = g.1.1 then sh else g.1.2.2 1000) = _; rw [if_neg (by omega)]; exact hg.2⟩
theorem zq_ov_lt {g : zq_G} {a : Nat} (hg : zq_og g) (h : a < g.1.1) : a ≠ 1000 := by have := hg.1; omega
theorem zq_getf_ov {N : Nat} {xs : Nat → Int32} {y k : Nat} {L st L2 st2 : List Value} {g g2 : zq_G} (hg : zq_og g) (h : zq_getf y k L st g = some (L2, st2, g2)) : zq_getf y k L st (zq_ov N xs g) = some (L2, st2, zq_ov N xs g2) ∧ zq_og g2 := by
  unfold zq_getf at h
  split at h
  · rename_i q hq
    split at h
    · rename_i a r
      split at h
      · rename_i hc
        cases h
        refine ⟨?_, hg⟩
        have ha := zq_ov_lt hg hc.1
        show zq_getf y k L _ (zq_ov N xs g) = _
        unfold zq_getf
        simp only [hq]
        rw [if_pos ⟨hc.1, by rw [zq_ov_sh ha]; exact hc.2⟩, zq_ov_gv ha]
      · cases h
    · cases h
  · cases h
theorem zq_putf_ov {N : Nat} {xs : Nat → Int32} {y k : Nat} {L st L2 st2 : List Value} {g g2 : zq_G} (hg : zq_og g) (h : zq_putf y k L st g = some (L2, st2, g2)) : zq_putf y k L st (zq_ov N xs g) = some (L2, st2, zq_ov N xs g2) ∧ zq_og g2 := by
  unfold zq_putf at h
  split at h
  · rename_i q hq
    split at h
    · rename_i v a r
      split at h
      · rename_i hc
        split at h
        · rename_i g3 hp
          cases h
          have ha := zq_ov_lt hg hc.1.1
          have hp1 := zq_pv_ok hp
          refine ⟨?_, by rw [hp1.1]; exact hg.1, by rw [hp1.1]; exact hg.2⟩
          show zq_putf y k L _ (zq_ov N xs g) = _
          unfold zq_putf
          simp only [hq]
          rw [if_pos ⟨⟨hc.1.1, by rw [zq_ov_sh ha]; exact hc.1.2⟩, hc.2⟩, zq_ov_pv ha hp]
        · cases h
      · cases h
    · cases h
  · cases h
theorem zq_newo_ov {N : Nat} {xs : Nat → Int32} {y k : Nat} {L st L2 st2 : List Value} {g g2 : zq_G} (hg : zq_og g) (h : zq_newo y k L st g = some (L2, st2, g2)) : zq_newo y k L st (zq_ov N xs g) = some (L2, st2, zq_ov N xs g2) ∧ zq_og g2 := by
  unfold zq_newo at h
  split at h
  · rename_i q hq
    split at h
    · rename_i hc
      cases h
      refine ⟨?_, zq_og_nc hg hc⟩
      rw [zq_ov_nc hc]
      show zq_newo y k L _ (zq_ov N xs g) = _
      unfold zq_newo
      simp only [hq]
      exact if_pos hc
    · cases h
  · cases h
theorem zq_newa_ov {N : Nat} {xs : Nat → Int32} {y k : Nat} {L st L2 st2 : List Value} {g g2 : zq_G} (hg : zq_og g) (h : zq_newa  L st g = some (L2, st2, g2)) : zq_newa  L st (zq_ov N xs g) = some (L2, st2, zq_ov N xs g2) ∧ zq_og g2 := by
  unfold zq_newa at h
  split at h
  · split at h
    · rename_i hc
      cases h
      refine ⟨?_, zq_og_nc hg hc.1⟩
      rw [zq_ov_nc hc.1]
      exact if_pos hc
    · cases h
  · cases h
theorem zq_newq_ov {N : Nat} {xs : Nat → Int32} {y k : Nat} {L st L2 st2 : List Value} {g g2 : zq_G} (hg : zq_og g) (h : zq_newq y k L st g = some (L2, st2, g2)) : zq_newq y k L st (zq_ov N xs g) = some (L2, st2, zq_ov N xs g2) ∧ zq_og g2 := by
  unfold zq_newq at h
  split at h
  · rename_i q hq
    split at h
    · split at h
      · rename_i hc
        cases h
        refine ⟨?_, zq_og_nc hg hc.2.1⟩
        rw [zq_ov_nc hc.2.1]
        show zq_newq y k L _ (zq_ov N xs g) = _
        unfold zq_newq
        simp only [hq]
        exact if_pos hc
      · cases h
    · cases h
  · cases h
theorem zq_iald_ov {N : Nat} {xs : Nat → Int32} {y k : Nat} {L st L2 st2 : List Value} {g g2 : zq_G} (hg : zq_og g) (h : zq_iald  L st g = some (L2, st2, g2)) : zq_iald  L st (zq_ov N xs g) = some (L2, st2, zq_ov N xs g2) ∧ zq_og g2 := by
  unfold zq_iald at h
  split at h
  · rename_i j a r
    split at h
    · rename_i hc
      cases h
      have ha : a ≠ 1000 := by
        rintro rfl
        have := hc.2.1
        rw [hg.2] at this
        cases this
      refine ⟨?_, hg⟩
      show zq_iald  L _ (zq_ov N xs g) = _
      unfold zq_iald
      dsimp only
      rw [zq_ov_sh ha, zq_ov_hi ha]
      exact if_pos hc
    · cases h
  · cases h
theorem zq_iast_ov {N : Nat} {xs : Nat → Int32} {y k : Nat} {L st L2 st2 : List Value} {g g2 : zq_G} (hg : zq_og g) (h : zq_iast  L st g = some (L2, st2, g2)) : zq_iast  L st (zq_ov N xs g) = some (L2, st2, zq_ov N xs g2) ∧ zq_og g2 := by
  unfold zq_iast at h
  split at h
  · rename_i v j a r
    split at h
    · rename_i hc
      cases h
      refine ⟨?_, hg⟩
      rw [zq_ov_u hc.2.1]
      show zq_iast  L _ (zq_ov N xs g) = _
      unfold zq_iast
      dsimp only
      rw [zq_ov_sh hc.2.1]
      exact if_pos hc
    · cases h
  · cases h
theorem zq_aald_ov {N : Nat} {xs : Nat → Int32} {y k : Nat} {L st L2 st2 : List Value} {g g2 : zq_G} (hg : zq_og g) (h : zq_aald  L st g = some (L2, st2, g2)) : zq_aald  L st (zq_ov N xs g) = some (L2, st2, zq_ov N xs g2) ∧ zq_og g2 := by
  unfold zq_aald at h
  split at h
  · rename_i j a r
    split at h
    · rename_i hc
      cases h
      refine ⟨?_, hg⟩
      show zq_aald  L _ (zq_ov N xs g) = _
      unfold zq_aald
      dsimp only
      rw [zq_ov_sh hc.2.1]
      exact if_pos hc
    · cases h
  · cases h
theorem zq_aast_ov {N : Nat} {xs : Nat → Int32} {y k : Nat} {L st L2 st2 : List Value} {g g2 : zq_G} (hg : zq_og g) (h : zq_aast  L st g = some (L2, st2, g2)) : zq_aast  L st (zq_ov N xs g) = some (L2, st2, zq_ov N xs g2) ∧ zq_og g2 := by
  unfold zq_aast at h
  split at h
  · rename_i v j a r
    split at h
    · rename_i hc
      cases h
      refine ⟨?_, hg⟩
      show zq_aast  L _ (zq_ov N xs g) = _
      unfold zq_aast
      dsimp only
      rw [zq_ov_sh hc.2.1]
      exact if_pos ⟨hc.1, hc.2.1, hc.2.2.1, hc.2.2.2.1, hc.2.2.2.2.1, hc.2.2.2.2.2.1, by rw [zq_ov_sh hc.2.2.2.2.1]; exact hc.2.2.2.2.2.2⟩
    · cases h
  · cases h
theorem zq_alen_ov {N : Nat} {xs : Nat → Int32} {y k : Nat} {L st L2 st2 : List Value} {g g2 : zq_G} (hg : zq_og g) (h : zq_alen  L st g = some (L2, st2, g2)) : zq_alen  L st (zq_ov N xs g) = some (L2, st2, zq_ov N xs g2) ∧ zq_og g2 := by
  unfold zq_alen at h
  split at h
  · rename_i a r
    split at h
    · rename_i hc
      cases h
      have ha : a ≠ 1000 := by
        rintro rfl
        have := hc.2
        rw [hg.2] at this
        cases this
      refine ⟨?_, hg⟩
      show zq_alen  L _ (zq_ov N xs g) = _
      unfold zq_alen
      dsimp only
      rw [zq_ov_sh ha]
      exact if_pos hc
    · rename_i hc0
      split at h
      · rename_i hc
        cases h
        refine ⟨?_, hg⟩
        show zq_alen  L _ (zq_ov N xs g) = _
        unfold zq_alen
        dsimp only
        rw [zq_ov_sh hc.2.1]
        exact (if_neg hc0).trans (if_pos hc)
      · cases h
  · cases h
theorem zq_sta_ov {N : Nat} {xs : Nat → Int32} {y k : Nat} {L st L2 st2 : List Value} {g g2 : zq_G} (hg : zq_og g) (h : zq_sta y k L st g = some (L2, st2, g2)) : zq_sta y k L st (zq_ov N xs g) = some (L2, st2, zq_ov N xs g2) ∧ zq_og g2 := by
  unfold zq_sta at h
  split at h
  · rename_i q hq
    split at h
    · rename_i hm
      unfold zq_copy at h
      split at h
      · rename_i n dp a sp a0 r
        split at h
        · rename_i hc
          cases h
          refine ⟨?_, hg⟩
          show zq_sta y k L _ (zq_ov N xs g) = _
          unfold zq_sta
          simp only [hq, hm]
          unfold zq_copy
          dsimp only
          rw [zq_ov_sh hc.1.2.1, zq_ov_sh hc.2.1.2.1]
          refine (if_pos hc).trans ?_
          congr 3
          unfold zq_ov
          refine Prod.ext rfl (Prod.ext ?_ rfl)
          funext x
          by_cases hx : x = 1000
          · subst hx
            simp only [if_pos]
            rw [zq_w_ne (Ne.symm hc.1.2.1)]
            simp
          · by_cases hx2 : x = a
            · subst hx2
              simp only [if_neg hx]
              rw [zq_w_eq, zq_w_eq, if_neg hc.2.1.2.1]
            · simp only [if_neg hx]
              rw [zq_w_ne hx2, zq_w_ne hx2]
              simp [hx]
        · cases h
      · cases h
    · rename_i hm
      unfold zq_mm at h
      split at h
      · split at h
        · rename_i h8
          cases h
          refine ⟨?_, hg⟩
          show zq_sta y k L _ (zq_ov N xs g) = _
          unfold zq_sta
          simp only [hq, hm]
          exact if_pos h8
        · cases h
      · cases h
    · rename_i hm
      unfold zq_mm at h
      split at h
      · split at h
        · rename_i h8
          cases h
          refine ⟨?_, hg⟩
          show zq_sta y k L _ (zq_ov N xs g) = _
          unfold zq_sta
          simp only [hq, hm]
          exact if_pos h8
        · cases h
      · cases h
    · cases h
  · cases h
theorem zq_spe_ov {N : Nat} {xs : Nat → Int32} {y k : Nat} {L st L2 st2 : List Value} {g g2 : zq_G} (hg : zq_og g) (h : zq_spe y k L st g = some (L2, st2, g2)) : zq_spe y k L st (zq_ov N xs g) = some (L2, st2, zq_ov N xs g2) ∧ zq_og g2 := by
  unfold zq_spe at h
  split at h
  · rename_i q hq
    split at h
    · rename_i hm
      split at h
      · split at h
        · rename_i h8
          cases h
          refine ⟨?_, hg⟩
          show zq_spe y k L _ (zq_ov N xs g) = _
          unfold zq_spe
          simp only [hq]
          exact (if_pos hm).trans (if_pos h8)
        · cases h
      · cases h
    · cases h
  · cases h
set_option maxHeartbeats 1000000 in
theorem zq_op_ov {N : Nat} {xs : Nat → Int32} {y : Nat} {i : Instr} {L st L2 st2 : List Value} {g g2 : zq_G} (hg : zq_og g) (h : zq_op y i L st g = some (L2, st2, g2)) : zq_op y i L st (zq_ov N xs g) = some (L2, st2, zq_ov N xs g2) ∧ zq_og g2 := by
  unfold zq_op at h
  split at h
  all_goals first
    | exact zq_getf_ov hg h
    | exact zq_putf_ov hg h
    | exact zq_newo_ov hg h
    | exact zq_newa_ov (y := 0) (k := 0) hg h
    | exact zq_newq_ov hg h
    | exact zq_iald_ov (y := 0) (k := 0) hg h
    | exact zq_iast_ov (y := 0) (k := 0) hg h
    | exact zq_aald_ov (y := 0) (k := 0) hg h
    | exact zq_aast_ov (y := 0) (k := 0) hg h
    | exact zq_alen_ov (y := 0) (k := 0) hg h
    | exact zq_sta_ov hg h
    | exact zq_spe_ov hg h
    | (cases h; exact ⟨rfl, hg⟩)
    | (obtain ⟨q, hq, h⟩ := Option.map_eq_some_iff.mp h; cases h; refine ⟨?_, hg⟩; simp only [zq_op, hq]; rfl)
    | (obtain ⟨x, hv, rfl, rfl, rfl⟩ := zq_pi_inv h; refine ⟨?_, hg⟩; simp only [zq_op, hv]; rfl)
    | (obtain ⟨x, hv, rfl, rfl, rfl⟩ := zq_pl_inv h; refine ⟨?_, hg⟩; simp only [zq_op, hv]; rfl)
    | (obtain ⟨hv, rfl, rfl, rfl⟩ := zq_pa_inv h; refine ⟨?_, hg⟩; rcases hv with ⟨x, hv⟩ | hv <;> (simp only [zq_op, hv]; rfl))
    | (obtain ⟨x, rfl, hk, rfl, rfl⟩ := zq_si_inv h; exact ⟨if_pos hk, hg⟩)
    | (obtain ⟨x, rfl, hk, rfl, rfl⟩ := zq_sl_inv h; exact ⟨if_pos hk, hg⟩)
    | (obtain ⟨v, hv, rfl, hk, rfl, rfl⟩ := zq_sa_inv h; rcases hv with ⟨x, rfl⟩ | rfl <;> exact ⟨if_pos hk, hg⟩)
    | (obtain ⟨_, _, _, rfl, rfl, rfl, rfl⟩ := zq_ii_inv h; exact ⟨rfl, hg⟩)
    | (obtain ⟨_, _, _, hy, rfl, rfl, rfl, rfl⟩ := zq_id_inv h; exact ⟨if_neg hy, hg⟩)
    | (obtain ⟨_, _, _, rfl, rfl, rfl, rfl⟩ := zq_jj_inv h; exact ⟨rfl, hg⟩)
    | (obtain ⟨_, _, _, hy, rfl, rfl, rfl, rfl⟩ := zq_jd_inv h; exact ⟨if_neg hy, hg⟩)
    | (exact absurd h (by intro q; cases q))
    | (split at h
       · first
         | (cases h; exact ⟨rfl, hg⟩)
         | (split at h
            · rename_i hk
              cases h
              refine ⟨?_, hg⟩
              first | exact if_pos hk | (rename_i hv; simp only [zq_op, hv]; exact if_pos hk)
            · cases h)
       · cases h)
theorem zq_ctl_jmp {y pc : Nat} {i : Instr} {st : List Value} {x : Nat × List Value} (h : zq_jmp pc i st = some x) : ∀ (L : List Value) (g : zq_G), zq_op y i L st g = none := by
  intro L g
  unfold zq_jmp at h
  split at h <;> first | rfl | cases h
theorem zq_ctl_ret {y : Nat} {i : Instr} {st : List Value} {x : Option Value} (h : zq_ret y i st = some x) : ∀ (L : List Value) (g : zq_G) (pc : Nat), zq_op y i L st g = none ∧ zq_jmp pc i st = none := by
  intro L g pc
  unfold zq_ret at h
  split at h <;> first | exact ⟨rfl, rfl⟩ | cases h
theorem zq_ctl_inv {y : Nat} {i : Instr} {st : List Value} {g : zq_G} {x : Nat × List Value × List Value} (h : zq_inv y i st g = some x) : ∀ (L : List Value) (g2 : zq_G) (pc : Nat), zq_op y i L st g2 = none ∧ zq_jmp pc i st = none ∧ zq_ret y i st = none := by
  intro L g2 pc
  unfold zq_inv at h
  split at h
  · exact ⟨rfl, rfl, rfl⟩
  · split at h
    · rename_i q hq
      dsimp only at h
      split at h
      · rename_i hm
        refine ⟨?_, rfl, rfl⟩
        show zq_sta _ _ _ _ _ = none
        unfold zq_sta
        simp only [hq, hm.1]
      · cases h
    · cases h
  · split at h
    · rename_i q hq
      dsimp only at h
      split at h
      · rename_i hm
        refine ⟨?_, rfl, rfl⟩
        show zq_spe _ _ _ _ _ = none
        unfold zq_spe
        simp only [hq]
        rw [if_neg (by rw [hm.1]; decide)]
      · cases h
    · cases h
  · cases h
theorem zq_inv_ov {N : Nat} {xs : Nat → Int32} {y : Nat} {i : Instr} {st : List Value} {g : zq_G} {x : Nat × List Value × List Value} (h : zq_inv y i st g = some x) : zq_inv y i st (zq_ov N xs g) = some x := by
  unfold zq_inv at h ⊢
  split at h
  · split at h
    · rename_i q hq
      dsimp only at h ⊢
      split at h
      · rename_i hm
        split at h
        · rename_i a r hd
          split at h
          · rename_i hc
            rw [if_pos hm]
            rw [if_pos ⟨hc.1, ⟨hc.2.1.1, by rw [zq_ov_sh hc.1]; exact hc.2.1.2⟩, hc.2.2⟩]
            exact h
          · cases h
        · cases h
      · cases h
    · cases h
  · exact h
  · exact h
  · cases h
theorem zq_run_ov {N : Nat} {xs : Nat → Int32} {c1 c2 : Nat → List Value → zq_G → zq_A} {y : Nat} (hc : ∀ z as g v g2, zq_og g → c1 z as g = some (v, g2) → c2 z as (zq_ov N xs g) = some (v, zq_ov N xs g2) ∧ zq_og g2) : ∀ (f pc : Nat) (L st : List Value) (g : zq_G) (v : Option Value) (g2 : zq_G), zq_og g → zq_run c1 y f pc L st g = some (v, g2) → zq_run c2 y f pc L st (zq_ov N xs g) = some (v, zq_ov N xs g2) ∧ zq_og g2 := by
  intro f
  induction f with
  | zero => intro pc L st g v g2 _ h; cases h
  | succ f ih =>
    intro pc L st g v g2 hg h
    unfold zq_run at h ⊢
    split at h
    · cases h
    · split at h
      · rename_i L2 st2 g3 ho
        obtain ⟨h1, h2⟩ := zq_op_ov (N := N) (xs := xs) hg ho
        simp only [h1]
        exact ih _ _ _ _ _ _ h2 h
      · split at h
        · rename_i t st2 hj
          simp only [zq_ctl_jmp hj, hj]
          exact ih _ _ _ _ _ _ hg h
        · rename_i hj
          split at h
          · rename_i v2 hr
            simp only [(zq_ctl_ret hr _ _ 0).1, hj]
            cases h
            exact ⟨rfl, hg⟩
          · rename_i hr
            split at h
            · rename_i z as r hi
              split at h
              · rename_i v2 g3 hz
                obtain ⟨h1, h2⟩ := hc _ _ _ _ _ hg hz
                simp only [(zq_ctl_inv hi _ _ 0).1, hj, zq_inv_ov hi, h1]
                exact ih _ _ _ _ _ _ h2 h
              · cases h
            · cases h
theorem zq_ev_ov {N : Nat} {xs : Nat → Int32} : ∀ (d F z : Nat) (as : List Value) (g : zq_G) (v : Option Value) (g2 : zq_G), zq_og g → zq_ev d F z as g = some (v, g2) → zq_ev d F z as (zq_ov N xs g) = some (v, zq_ov N xs g2) ∧ zq_og g2 := by
  intro d
  induction d with
  | zero => intro F z as g v g2 _ h; cases h
  | succ d ih =>
    intro F z as g v g2 hg h
    unfold zq_ev at h ⊢
    split at h
    · rename_i hl
      rw [if_pos hl]
      exact zq_run_ov (fun z as g v g2 q0 q1 => ih F z as g v g2 q0 q1) _ _ _ _ _ _ _ hg h
    · cases h
