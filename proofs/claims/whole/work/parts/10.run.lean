/-! A run of the small machine is a run of the real one -/
theorem zq_op_mono {y : Nat} {i : Instr} {L st L2 st2 : List Value} {g g2 : zq_G} (h : zq_op y i L st g = some (L2, st2, g2)) : g.1.1 ≤ g2.1.1 ∧ g.1.2.1 ≤ g2.1.2.1 := by
  have refl : ∀ g3 : zq_G, g3.1 = g.1 → g.1.1 ≤ g3.1.1 ∧ g.1.2.1 ≤ g3.1.2.1 := fun g3 h => by rw [h]; exact ⟨Nat.le_refl _, Nat.le_refl _⟩
  unfold zq_op at h
  split at h
  all_goals first
    | (cases h; exact refl _ rfl)
    | (obtain ⟨q, hq, h⟩ := Option.map_eq_some_iff.mp h; cases h; exact refl _ rfl)
    | (obtain ⟨_, _, _, _, rfl⟩ := zq_pi_inv h; exact refl _ rfl)
    | (obtain ⟨_, _, _, _, rfl⟩ := zq_pl_inv h; exact refl _ rfl)
    | (obtain ⟨_, _, _, rfl⟩ := zq_pa_inv h; exact refl _ rfl)
    | (obtain ⟨_, _, _, _, rfl⟩ := zq_si_inv h; exact refl _ rfl)
    | (obtain ⟨_, _, _, _, rfl⟩ := zq_sl_inv h; exact refl _ rfl)
    | (obtain ⟨_, _, _, _, _, rfl⟩ := zq_sa_inv h; exact refl _ rfl)
    | (obtain ⟨_, _, _, _, _, _, rfl⟩ := zq_ii_inv h; exact refl _ rfl)
    | (obtain ⟨_, _, _, _, _, _, _, rfl⟩ := zq_id_inv h; exact refl _ rfl)
    | (obtain ⟨_, _, _, _, _, _, rfl⟩ := zq_jj_inv h; exact refl _ rfl)
    | (obtain ⟨_, _, _, _, _, _, _, rfl⟩ := zq_jd_inv h; exact refl _ rfl)
    | exact zq_newo_mono h
    | exact zq_newa_mono h
    | exact zq_newq_mono h
    | (unfold zq_getf at h; repeat' split at h
       all_goals first | (cases h; exact refl _ rfl) | cases h)
    | (unfold zq_putf at h; repeat' split at h
       all_goals first | (rename_i hg3; cases h; exact refl _ (zq_pv_ok hg3).1) | cases h)
    | (unfold zq_iald at h; repeat' split at h
       all_goals first | (cases h; exact refl _ rfl) | cases h)
    | (unfold zq_iast at h; repeat' split at h
       all_goals first | (cases h; exact refl _ rfl) | cases h)
    | (unfold zq_aald at h; repeat' split at h
       all_goals first | (cases h; exact refl _ rfl) | cases h)
    | (unfold zq_aast at h; repeat' split at h
       all_goals first | (cases h; exact refl _ rfl) | cases h)
    | (unfold zq_alen at h; repeat' split at h
       all_goals first | (cases h; exact refl _ rfl) | cases h)
    | (unfold zq_sta zq_copy zq_mm at h; repeat' split at h
       all_goals first | (cases h; exact refl _ rfl) | cases h)
    | (unfold zq_spe at h; repeat' split at h
       all_goals first | (cases h; exact refl _ rfl) | cases h)
    | (repeat' split at h
       all_goals first | (cases h; exact refl _ rfl) | cases h)
theorem zq_run_mono {call : Nat → List Value → zq_G → zq_A} {y : Nat} (hc : ∀ z as g v g2, call z as g = some (v, g2) → g.1.1 ≤ g2.1.1 ∧ g.1.2.1 ≤ g2.1.2.1) : ∀ (f pc : Nat) (L st : List Value) (g : zq_G) (v : Option Value) (g2 : zq_G), zq_run call y f pc L st g = some (v, g2) → g.1.1 ≤ g2.1.1 ∧ g.1.2.1 ≤ g2.1.2.1 := by
  intro f
  induction f with
  | zero => intro pc L st g v g2 h; cases h
  | succ f ih =>
    intro pc L st g v g2 h
    unfold zq_run at h
    split at h
    · cases h
    · split at h
      · rename_i L2 st2 g3 ho
        have h1 := zq_op_mono ho
        have h2 := ih _ _ _ _ _ _ h
        exact ⟨Nat.le_trans h1.1 h2.1, Nat.le_trans h1.2 h2.2⟩
      · split at h
        · exact ih _ _ _ _ _ _ h
        · split at h
          · cases h; exact ⟨Nat.le_refl _, Nat.le_refl _⟩
          · split at h
            · split at h
              · rename_i z as r _ v2 g3 hz
                have h1 := hc _ _ _ _ _ hz
                have h2 := ih _ _ _ _ _ _ h
                exact ⟨Nat.le_trans h1.1 h2.1, Nat.le_trans h1.2 h2.2⟩
              · cases h
            · cases h
theorem zq_ev_mono : ∀ (d F z : Nat) (as : List Value) (g : zq_G) (v : Option Value) (g2 : zq_G), zq_ev d F z as g = some (v, g2) → g.1.1 ≤ g2.1.1 ∧ g.1.2.1 ≤ g2.1.2.1 := by
  intro d
  induction d with
  | zero => intro F z as g v g2 h; cases h
  | succ d ih =>
    intro F z as g v g2 h
    unfold zq_ev at h
    split at h
    · exact zq_run_mono (fun z as g v g2 h => ih F z as g v g2 h) _ _ _ _ _ _ _ h
    · cases h
def zq_Pc (X : zq_X) (as : List Value) (g : zq_G) : Array Value → State → Prop := fun a U => a = (as.map (zq_av X)).toArray ∧ zq_H X g U.heap ∧ zq_K X U
def zq_Qc (X : zq_X) (v : Option Value) (g : zq_G) : Array Value → State → Outcome → State → Prop := fun _ _ o t => o = .returned (v.map (zq_av X)) ∧ zq_H X g t.heap
abbrev zq_cw (z : Nat) : Cond := .code (zq_nm z) (zq_by z) (zq_ml z) (zq_rt z)
abbrev zq_rm (d : Nat) (g g2 : zq_G) : Room := { frames := d, cells := g2.1.1 - g.1.1, slots := g2.1.2.1 - g.1.2.1, locals := 200 * d }
def zq_Met (l : Launch) (X : zq_X) (d z : Nat) (as : List Value) (g : zq_G) (v : Option Value) (g2 : zq_G) : Prop := Met l (zq_nm z) [zq_cw z] (zq_rm d g g2) (zq_Pc X as g) (zq_Qc X v g2) (g2.1.1 - g.1.1) (g2.1.2.1 - g.1.2.1) (zq_Ad X)
theorem zq_blind (X : zq_X) (as : List Value) (g : zq_G) : FrameBlind (zq_Pc X as g) := fun a U f mk h => ⟨h.1, h.2.1, zq_K.moved (U := U.calling f mk a) (State.WarmedH.refl U) h.2.2⟩
theorem zq_tgI {pc : Nat} {o : Int} (h : 0 ≤ (pc : Int) + o) : (pc : Int) + o = (zq_tg pc o : Int) := by unfold zq_tg; rw [Int.toNat_of_nonneg h]
section ZR
variable {p : Program} {l : Launch} {e : Env} {R : Room} {s : State} {m : MethodId} {args : Array Value} {below : List Frame} {meth : Method} {c : Code} {H : Heap} {locs : List Loc} {cells slots : Nat} {Q : State → Prop}
variable {X : zq_X} {y pc : Nat} {g0 g g2 : zq_G} {ls : Array Slot} {L L2 st st2 : List Value}
theorem zq_jmp_ok (F : zq_Fr X p s m args meth c y) {i : Instr} {len t : Nat} (hd : decode (zq_by y) pc = .ok (i, len)) (hlen : zq_lok i len = true) (hj : zq_jmp pc i st = some (t, st2))
    (kk : W p l e R s m args below meth c H locs cells slots Q (F0 m t ls (st2.map (zq_av X)))) : W p l e R s m args below meth c H locs cells slots Q (F0 m pc ls (st.map (zq_av X))) := by
  obtain ⟨hx, hb, -⟩ := F
  unfold zq_jmp at hj
  split at hj
  · cases zq_lok1 hlen 3 (fun _ => rfl)
    split at hj
    · rename_i h0
      cases hj
      exact lv_goto hx hb hd (zq_tgI h0) kk
    · cases hj
  · rename_i cd o
    cases zq_lok1 hlen 3 (fun _ => rfl)
    split at hj
    · split at hj
      · rename_i h0
        cases hj
        cases cd
        · exact lv_if_eq hx hb hd (zq_tgI h0) (fun h => by simpa [zq_test, h] using kk) (fun h => by simpa [zq_test, h] using kk)
        · exact lv_if_ne hx hb hd (zq_tgI h0) (fun h => by simpa [zq_test, h] using kk) (fun h => by simpa [zq_test, h] using kk)
        · exact lv_if_lt hx hb hd (zq_tgI h0) (fun h => by simpa [zq_test, h] using kk) (fun h => by simpa [zq_test, h] using kk)
        · exact lv_if_ge hx hb hd (zq_tgI h0) (fun h => by simpa [zq_test, h] using kk) (fun h => by simpa [zq_test, h] using kk)
        · exact lv_if_gt hx hb hd (zq_tgI h0) (fun h => by simpa [zq_test, h] using kk) (fun h => by simpa [zq_test, h] using kk)
        · exact lv_if_le hx hb hd (zq_tgI h0) (fun h => by simpa [zq_test, h] using kk) (fun h => by simpa [zq_test, h] using kk)
      · cases hj
    · cases hj
  · rename_i cd o
    cases zq_lok1 hlen 3 (fun _ => rfl)
    split at hj
    · split at hj
      · rename_i h0
        cases hj
        cases cd
        · exact lv_icmp_eq hx hb hd (zq_tgI h0) (fun h => by simpa [zq_test, h] using kk) (fun h => by simpa [zq_test, h] using kk)
        · exact lv_icmp_ne hx hb hd (zq_tgI h0) (fun h => by simpa [zq_test, h] using kk) (fun h => by simpa [zq_test, h] using kk)
        · exact lv_icmp_lt hx hb hd (zq_tgI h0) (fun h => by simpa [zq_test, h] using kk) (fun h => by simpa [zq_test, h] using kk)
        · exact lv_icmp_ge hx hb hd (zq_tgI h0) (fun h => by simpa [zq_test, h] using kk) (fun h => by simpa [zq_test, h] using kk)
        · exact lv_icmp_gt hx hb hd (zq_tgI h0) (fun h => by simpa [zq_test, h] using kk) (fun h => by simpa [zq_test, h] using kk)
        · exact lv_icmp_le hx hb hd (zq_tgI h0) (fun h => by simpa [zq_test, h] using kk) (fun h => by simpa [zq_test, h] using kk)
      · cases hj
    · cases hj
  · cases zq_lok1 hlen 3 (fun _ => rfl)
    split at hj
    · split at hj
      · rename_i h0
        cases hj
        exact lv_ifnullN hx hb hd (zq_tgI h0) kk
      · cases hj
    · cases hj
      exact lv_ifnull hx hb hd kk
    · cases hj
  · cases zq_lok1 hlen 3 (fun _ => rfl)
    split at hj
    · cases hj
      exact lv_ifnonnullN hx hb hd kk
    · split at hj
      · rename_i h0
        cases hj
        exact lv_ifnonnull hx hb hd (zq_tgI h0) kk
      · cases hj
    · cases hj
  · split at hj
    · split at hj
      · rename_i h1
        split at hj
        · rename_i h0
          cases hj
          exact lv_tableOut hx hb hd h1 (zq_tgI h0) kk
        · cases hj
      · rename_i h1
        split at hj
        · rename_i o ho
          split at hj
          · rename_i h0
            cases hj
            exact lv_tableIn hx hb hd (fun h => h1 (Or.inl h)) (fun h => h1 (Or.inr h)) ho (zq_tgI h0) kk
          · cases hj
        · cases hj
    · cases hj
  · cases hj
theorem zq_ret_ok (F : zq_Fr X p s m args meth c y) {i : Instr} {len : Nat} {v : Option Value} (hd : decode (zq_by y) pc = .ok (i, len)) (hlen : zq_lok i len = true) (hr : zq_ret y i st = some v) (hH : zq_H X g H) (hS : va_S (zq_Ad X) s.heap H locs) :
    W p l e R s m args below meth c H locs cells slots (MQ below (zq_Qc X v g) args s cells slots (zq_Ad X)) (F0 m pc ls (st.map (zq_av X))) := by
  obtain ⟨hx, hb, -, -, -, -, -, hlk, hrt⟩ := F
  unfold zq_ret at hr
  split at hr
  · cases zq_lok1 hlen 1 (fun _ => rfl)
    split at hr
    · split at hr
      · rename_i h1
        cases hr
        exact W.iret hx hb (hrt.trans h1) (fun t ht _ => ⟨rfl, by rw [ht]; exact hH⟩) hS.2.2 hd hlk
      · rename_i h1
        split at hr
        · rename_i h2
          cases hr
          refine W.zret hx hb (hrt.trans h1) ?_ (fun t ht _ => ⟨rfl, by rw [ht]; exact hH⟩) hS.2.2 hd hlk
          rcases h2 with rfl | rfl <;> rfl
        · cases hr
      · cases hr
    · cases hr
  · cases zq_lok1 hlen 1 (fun _ => rfl)
    split at hr
    · split at hr
      · rename_i h1
        cases hr
        exact W.lret hx hb (hrt.trans h1) (fun t ht _ => ⟨rfl, by rw [ht]; exact hH⟩) hS.2.2 hd hlk
      · cases hr
    · cases hr
  · cases zq_lok1 hlen 1 (fun _ => rfl)
    split at hr
    · rename_i t h1
      split at hr
      · rename_i h2
        have hrk : (∃ n, t = .object n) ∨ ∃ t', t = .array t' := by
          cases t <;> first | (exact Or.inl ⟨_, rfl⟩) | (exact Or.inr ⟨_, rfl⟩) | (cases h2)
        split at hr
        · cases hr
          exact W.aret hx hb (hrt.trans h1) hrk (Or.inr ⟨_, rfl⟩) (fun t ht _ => ⟨rfl, by rw [ht]; exact hH⟩) hS.2.2 hd hlk
        · cases hr
          exact W.aret hx hb (hrt.trans h1) hrk (Or.inl rfl) (fun t ht _ => ⟨rfl, by rw [ht]; exact hH⟩) hS.2.2 hd hlk
        · cases hr
      · cases hr
    · cases hr
  · cases zq_lok1 hlen 1 (fun _ => rfl)
    split at hr
    · split at hr
      · rename_i h1
        cases hr
        exact W.vret hx hb (hrt.trans h1) (fun t ht _ => ⟨rfl, by rw [ht]; exact hH⟩) hS.2.2 hd hlk
      · cases hr
    · cases hr
  · cases hr
theorem zq_call {mc ms : Nat} {st0 rest : List Value} {v : Option Value} {Qa : State → Outcome → State → Prop} (hs : zq_H X g0 s.heap) (hg : g0.1.1 ≤ g2.1.1) (hr : va_Run p l e R s m args below meth c H locs cells slots mc ms (F0 m pc ls st0) rest Qa (zq_Ad X)) (hS : va_S (zq_Ad X) s.heap H locs) (hQ : ∀ (st₀ : State) (o : Outcome) (t : State), Qa st₀ o t → o = .returned v ∧ zq_H X g2 t.heap)
    (kk : ∀ (H2 : Heap) (locs2 : List Loc), zq_H X g2 H2 → va_S (zq_Ad X) s.heap H2 locs2 → W p l e R s m args below meth c H2 locs2 (cells + mc) (slots + ms) Q (F0 m (pc + 3) ls (v.toList ++ rest))) : W p l e R s m args below meth c H locs cells slots Q (F0 m pc ls st0) := by
  intro T hT Xs
  obtain ⟨v', st₀, t, T', L', h0, X', hL, e1, e2, hq, st⟩ := hr T hT Xs
  obtain ⟨ev, hH2⟩ := hQ _ _ _ hq
  cases ev
  rw [← e1] at hH2
  have hS2 : va_S (zq_Ad X) s.heap T'.heap (locs ++ L') := by
    refine ⟨by have h1 := hs.2.2.2.1; have h2 := hH2.2.2.2.1; omega, fun q h1 h2 => ?_, fun q hq => ?_⟩
    · have h3 : q < zq_B X := Nat.not_le.mp h2
      rw [hH2.2.2.2.2.2 q h3, hs.2.2.2.2.2 q h3]
    · rcases List.mem_append.mp hq with h | h
      · exact hS.2.2 q h
      · exact hL q h
  obtain ⟨t2, a1, b1⟩ := kk T'.heap (locs ++ L') hH2 hS2 T' rfl X'
  exact ⟨t2, st t2 a1, b1⟩
end ZR
