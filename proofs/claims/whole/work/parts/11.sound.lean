/-! Calls, and the whole: what the small machine answers the real one answers -/
theorem zq_rt_init : ∀ y, y < 208 → (zq_i y).2.2.1 = 2 → zq_rt y = none := by decide +kernel
section ZC
variable {p : Program} {l : Launch} {e : Env} {R : Room} {s : State} {m : MethodId} {args : Array Value} {below : List Frame} {meth : Method} {c : Code} {H : Heap} {locs : List Loc} {cells slots : Nat} {Q : State → Prop}
variable {X : zq_X} {y pc : Nat} {g0 g g2 : zq_G} {ls : Array Slot} {L L2 st st2 : List Value}
theorem zq_par {z n : Nat} (h : (parseMethodDescriptor (zq_nm z).desc).map (fun d => d.parameters.length) = some n) : ∀ sig, parseMethodDescriptor (zq_nm z).desc = some sig → n = sig.parameters.length := fun sig hs => by
  rw [hs] at h
  exact (Option.some.inj h).symm
theorem zq_inv_ok (F : zq_Fr X p s m args meth c y) (hs : zq_H X g0 s.heap) {d : Nat} {i : Instr} {len z : Nat} {as r : List Value} {v : Option Value} (hd : decode (zq_by y) pc = .ok (i, len)) (hlen : zq_lok i len = true) (hi : zq_inv y i st g = some (z, as, r)) (hM : zq_Met l X d z as g v g2) (hl : zq_loc (zq_B X) (zq_b X) L ls (zq_ml y)) (hH : zq_H X g H) (hS : va_S (zq_Ad X) s.heap H locs)
    (hg : g0.1.1 ≤ g.1.1) (hk0 : g0.1.2.1 ≤ g.1.2.1) (hg2 : g.1.1 ≤ g2.1.1) (hk2 : g.1.2.1 ≤ g2.1.2.1) (hR : d + 1 ≤ R.frames ∧ 200 * (d + 1) ≤ R.locals ∧ g2.1.1 - g0.1.1 ≤ R.cells ∧ g2.1.2.1 - g0.1.2.1 ≤ R.slots)
    (kk : ∀ (H2 : Heap) (locs2 : List Loc), zq_H X g2 H2 → va_S (zq_Ad X) s.heap H2 locs2 → W p l e R s m args below meth c H2 locs2 (g2.1.1 - g0.1.1) (g2.1.2.1 - g0.1.2.1) Q (F0 m (pc + 3) ls ((v.toList ++ r).map (zq_av X)))) :
    W p l e R s m args below meth c H locs (g.1.1 - g0.1.1) (g.1.2.1 - g0.1.2.1) Q (F0 m pc ls (st.map (zq_av X))) := by
  obtain ⟨hx, hb, hml, hown, hin, hts, hK, -⟩ := F
  have kk2 : ∀ (H2 : Heap) (locs2 : List Loc), zq_H X g2 H2 → va_S (zq_Ad X) s.heap H2 locs2 → W p l e R s m args below meth c H2 locs2 ((g.1.1 - g0.1.1) + (g2.1.1 - g.1.1)) ((g.1.2.1 - g0.1.2.1) + (g2.1.2.1 - g.1.2.1)) Q (F0 m (pc + 3) ls ((v.map (zq_av X)).toList ++ r.map (zq_av X))) := by
    intro H2 locs2 h1 h2
    have h := kk H2 locs2 h1 h2
    rw [List.map_append] at h
    rw [show (g.1.1 - g0.1.1) + (g2.1.1 - g.1.1) = g2.1.1 - g0.1.1 by omega, show (g.1.2.1 - g0.1.2.1) + (g2.1.2.1 - g.1.2.1) = g2.1.2.1 - g0.1.2.1 by omega]
    cases v <;> exact h
  have hroom : (g.1.1 - g0.1.1) + (g2.1.1 - g.1.1) ≤ R.cells ∧ (g.1.2.1 - g0.1.2.1) + (g2.1.2.1 - g.1.2.1) ≤ R.slots := by have := hR.2.2; omega
  have hPU : ∀ U : State, U.heap = H → s.WarmedH U.vm → zq_Pc X as g (as.map (zq_av X)).toArray U := fun U hU hW => ⟨rfl, by rw [hU]; exact hH, zq_K.moved hW hK⟩
  have words : z ≠ 0 → z < 208 → (∀ w ∈ [zq_cw z], ∀ (a' : Array Value) (U : State), s.WarmedH U.vm → w.before a' U = true) ∧ zq_cw z ∈ [zq_cw z] ∧ (zq_cw z).before args s = true ∧ (Cond.initialized (zq_nm z).cls).before args s = true ∧ ((zq_nm z).cls ≠ "java/lang/invoke/MethodHandle" ∧ (zq_nm z).cls ≠ "java/lang/invoke/VarHandle") ∧ (∀ sig, parseMethodDescriptor (zq_nm z).desc = some sig → (zq_i z).2.1 = sig.parameters.length) ∧ zq_ml z ≤ 40 := by
    intro h0 h1
    obtain ⟨m1, m2, m3, m4, m5, m6, m7, m8, m9, m10, m11, m12⟩ := zq_mi_all h1 h0
    have hcode := hts _ (zq_tb_at m1 rfl)
    refine ⟨fun w hw a' U hW => ?_, List.mem_singleton.mpr rfl, hcode, hts _ (zq_tb_at m2 rfl), ⟨m10, m11⟩, zq_par m4, m12⟩
    rw [List.mem_singleton.mp hw]
    exact zq_word_moved rfl hW hcode
  unfold zq_inv at hi
  split at hi
  · cases zq_lok1 hlen 3 (fun _ => rfl)
    split at hi
    · rename_i k q hq
      obtain ⟨q1, q2, q3, q4, q5⟩ := zq_mq_ok hq
      rw [q1, q2] at q5
      dsimp only at hi
      split at hi
      · rename_i hm
        obtain ⟨n1, n2⟩ := q3 hm.1
        obtain ⟨m1, m2, m3, m4, m5, m6, m7, m8, m9, m10, m11, m12⟩ := zq_mi_all n2 n1
        split at hi
        · rename_i a r' hdrop
          split at hi
          · rename_i hc
            cases hi
            obtain ⟨w1, w2, w3, w4, w5, w6, w7⟩ := words n1 n2
            obtain ⟨c1, c2, c3⟩ := hc
            have hlt : (zq_i q.2.2.2.1).2.1 < st.length := by
              have := congrArg List.length hdrop
              rw [List.length_drop, List.length_cons] at this
              omega
            have ea := zq_ad (X := X) c2.1 hH
            have hstk : st.map (zq_av X) = (((st.take (zq_i q.2.2.2.1).2.1).reverse.map (zq_av X))).reverse ++ .ref (zq_B X + a) :: r.map (zq_av X) := by
              rw [← ea, List.map_reverse, List.reverse_reverse]
              conv => lhs; rw [← List.take_append_drop (zq_i q.2.2.2.1).2.1 st, hdrop, List.map_append]
              rfl
            have hw := zq_ws_get (cI := zq_cI X) (cR := zq_cR X) (B := zq_B X) (b := zq_b X) c2.1
            rw [zq_E_2 c2.2] at hw
            have hrecv := va_recv hK.2.1 hH.2.2.2.2.1 (zq_cl_at _ (m7 hm.2)) hw
            have hPU2 : ∀ U : State, U.heap = H → s.WarmedH U.vm → zq_Pc X (.ref a :: (st.take (zq_i q.2.2.2.1).2.1).reverse) g (.ref (zq_B X + a) :: (st.take (zq_i q.2.2.2.1).2.1).reverse.map (zq_av X)).toArray U := by
              intro U hU hW
              have h := hPU U hU hW
              rw [List.map_cons, show zq_av X (.ref a) = .ref (zq_B X + a) from congrArg Value.ref ea] at h
              exact h
            have hsel := hts _ (zq_tb_at (m6 hm.2) rfl)
            rw [if_neg (by omega)] at m5
            have hins := hts _ (zq_tb_at m5 rfl)
            rw [m3] at hsel
            by_cases hn : q.2.2.2.2.1 = 1
            · rw [if_pos hn] at q5
              refine zq_call hs (Nat.le_trans hg hg2) (va_runVN (As := (st.take (zq_i q.2.2.2.1).2.1).reverse.map (zq_av X)) (rest := r.map (zq_av X)) (n := (zq_i q.2.2.2.1).2.1) ⟨hx, hb, hml, hown, hts⟩ hM ⟨⟨⟨rfl, rfl, hR.1, by show 8 + (zq_ml q.2.2.2.1 + 11) + 200 * d ≤ R.locals; omega, w1, w2⟩, w3, w4, w5, w6, hts _ (zq_tb_at q5 rfl)⟩, hins, hsel⟩ ⟨zq_blind _ _ _, hrecv, hPU2⟩ rfl (by simp; omega) hl.2.1 hstk (by rw [zq_av_sum]; show 2 * 0 + _ ≤ 8; omega) hd hroom) hS (fun st₀ o t h => h) kk2
            · rw [if_neg hn, if_pos hm.1] at q5
              refine zq_call hs (Nat.le_trans hg hg2) (va_runV (As := (st.take (zq_i q.2.2.2.1).2.1).reverse.map (zq_av X)) (rest := r.map (zq_av X)) (n := (zq_i q.2.2.2.1).2.1) ⟨hx, hb, hml, hown, hts⟩ hM ⟨⟨rfl, rfl, hR.1, by show 8 + (zq_ml q.2.2.2.1 + 11) + 200 * d ≤ R.locals; omega, w1, w2, w3, w4, w5, w6, hts _ (zq_tb_at q5 rfl)⟩, hins, hsel⟩ ⟨zq_blind _ _ _, hrecv, hPU2⟩ rfl (by simp; omega) hl.2.1 hstk (by rw [zq_av_sum]; show 2 * 0 + _ ≤ 8; omega) hd hroom) hS (fun st₀ o t h => h) kk2
          · cases hi
        · cases hi
      · cases hi
    · cases hi
  · cases zq_lok1 hlen 3 (fun _ => rfl)
    split at hi
    · rename_i k q hq
      obtain ⟨q1, q2, q3, q4, q5⟩ := zq_mq_ok hq
      rw [q1, q2] at q5
      dsimp only at hi
      split at hi
      · rename_i hm
        cases hi
        obtain ⟨h1, h2, h3, h4⟩ := hm
        obtain ⟨n1, n2⟩ := q3 h1
        obtain ⟨w1, w2, w3, w4, w5, w6, w7⟩ := words n1 n2
        obtain ⟨m1, m2, m3, m4, m5, -⟩ := zq_mi_all n2 n1
        rw [if_pos h2] at m5
        have hstat := hts _ (zq_tb_at m5 rfl)
        have hstk : st.map (zq_av X) = (((st.take (zq_i q.2.2.2.1).2.1).reverse.map (zq_av X))).reverse ++ (st.drop (zq_i q.2.2.2.1).2.1).map (zq_av X) := by
          rw [List.map_reverse, List.reverse_reverse, ← List.map_append, List.take_append_drop]
        by_cases hn : q.2.2.2.2.1 = 1
        · rw [if_pos hn] at q5
          refine zq_call hs (Nat.le_trans hg hg2) (va_runSN (As := (st.take (zq_i q.2.2.2.1).2.1).reverse.map (zq_av X)) (rest := (st.drop (zq_i q.2.2.2.1).2.1).map (zq_av X)) (n := (zq_i q.2.2.2.1).2.1) ⟨hx, hb, hml, hown, hts⟩ hM ⟨⟨⟨rfl, rfl, hR.1, by show 8 + (zq_ml q.2.2.2.1 + 11) + 200 * d ≤ R.locals; omega, w1, w2⟩, w3, w4, w5, w6, hts _ (zq_tb_at q5 rfl)⟩, hstat, trivial⟩ ⟨zq_blind _ _ _, hPU⟩ rfl (by simp; omega) hl.2.1 hstk (by rw [zq_av_sum]; show 2 * 0 + _ ≤ 8; omega) hd hroom) hS (fun st₀ o t h => h) kk2
        · rw [if_neg hn, if_pos h1] at q5
          refine zq_call hs (Nat.le_trans hg hg2) (va_runS (As := (st.take (zq_i q.2.2.2.1).2.1).reverse.map (zq_av X)) (rest := (st.drop (zq_i q.2.2.2.1).2.1).map (zq_av X)) (n := (zq_i q.2.2.2.1).2.1) ⟨hx, hb, hml, hown, hts⟩ hM ⟨⟨rfl, rfl, hR.1, by show 8 + (zq_ml q.2.2.2.1 + 11) + 200 * d ≤ R.locals; omega, w1, w2, w3, w4, w5, w6, hts _ (zq_tb_at q5 rfl)⟩, hstat⟩ ⟨zq_blind _ _ _, hPU⟩ rfl (by simp; omega) hl.2.1 hstk (by rw [zq_av_sum]; show 2 * 0 + _ ≤ 8; omega) hd hroom) hS (fun st₀ o t h => h) kk2
      · cases hi
    · cases hi
  · cases zq_lok1 hlen 3 (fun _ => rfl)
    split at hi
    · rename_i k q hq
      obtain ⟨q1, q2, q3, q4, q5⟩ := zq_mq_ok hq
      rw [q1, q2] at q5
      dsimp only at hi
      split at hi
      · rename_i hm
        obtain ⟨n1, n2⟩ := q3 hm.1
        obtain ⟨m1, m2, m3, m4, m5, m6, m7, m8, m9, m10, m11, m12⟩ := zq_mi_all n2 n1
        split at hi
        · rename_i a r' hdrop
          split at hi
          · rename_i hc
            cases hi
            obtain ⟨w1, w2, w3, w4, w5, w6, w7⟩ := words n1 n2
            have hlt : (zq_i q.2.2.2.1).2.1 < st.length := by
              have := congrArg List.length hdrop
              rw [List.length_drop, List.length_cons] at this
              omega
            have hstk : st.map (zq_av X) = (((st.take (zq_i q.2.2.2.1).2.1).reverse.map (zq_av X))).reverse ++ .ref (zq_a (zq_B X) (zq_b X) a) :: r.map (zq_av X) := by
              rw [List.map_reverse, List.reverse_reverse]
              conv => lhs; rw [← List.take_append_drop (zq_i q.2.2.2.1).2.1 st, hdrop, List.map_append]
              rfl
            rw [if_neg (by omega)] at m5
            have hins := hts _ (zq_tb_at m5 rfl)
            have hnone : zq_rt q.2.2.2.1 = none := zq_rt_init _ n2 hm.2
            rw [show [zq_cw q.2.2.2.1] = [Cond.code (zq_nm q.2.2.2.1) (zq_by q.2.2.2.1) (zq_ml q.2.2.2.1) none] by rw [← hnone]] at w1
            have w3' : (Cond.code (zq_nm q.2.2.2.1) (zq_by q.2.2.2.1) (zq_ml q.2.2.2.1) none).before args s = true := by rw [← hnone]; exact w3
            have w2' : Cond.code (zq_nm q.2.2.2.1) (zq_by q.2.2.2.1) (zq_ml q.2.2.2.1) none ∈ [Cond.code (zq_nm q.2.2.2.1) (zq_by q.2.2.2.1) (zq_ml q.2.2.2.1) none] := List.mem_singleton.mpr rfl
            have hM2 := hM
            unfold zq_Met at hM2
            rw [show [zq_cw q.2.2.2.1] = [Cond.code (zq_nm q.2.2.2.1) (zq_by q.2.2.2.1) (zq_ml q.2.2.2.1) none] by rw [← hnone]] at hM2
            by_cases hn : q.2.2.2.2.1 = 1
            · rw [if_pos hn] at q5
              refine zq_call hs (Nat.le_trans hg hg2) (va_runIN (As := (st.take (zq_i q.2.2.2.1).2.1).reverse.map (zq_av X)) (rest := r.map (zq_av X)) (n := (zq_i q.2.2.2.1).2.1) ⟨hx, hb, hml, hown, hts⟩ hM2 ⟨⟨⟨rfl, rfl, hR.1, by show 8 + (zq_ml q.2.2.2.1 + 11) + 200 * d ≤ R.locals; omega, w1, w2'⟩, w3', w4, w5, w6, hts _ (zq_tb_at q5 rfl)⟩, m8.mp hm.2, hins⟩ ⟨zq_blind _ _ _, hPU⟩ rfl (by simp; omega) hl.2.1 hstk (by rw [zq_av_sum]; show 2 * 0 + _ ≤ 8; omega) hd hroom) hS (fun st₀ o t h => h) kk2
            · rw [if_neg hn, if_pos hm.1] at q5
              refine zq_call hs (Nat.le_trans hg hg2) (va_runI (As := (st.take (zq_i q.2.2.2.1).2.1).reverse.map (zq_av X)) (rest := r.map (zq_av X)) (n := (zq_i q.2.2.2.1).2.1) ⟨hx, hb, hml, hown, hts⟩ hM2 ⟨⟨rfl, rfl, hR.1, by show 8 + (zq_ml q.2.2.2.1 + 11) + 200 * d ≤ R.locals; omega, w1, w2', w3', w4, w5, w6, hts _ (zq_tb_at q5 rfl)⟩, m8.mp hm.2, hins⟩ ⟨zq_blind _ _ _, hPU⟩ rfl (by simp; omega) hl.2.1 hstk (by rw [zq_av_sum]; show 2 * 0 + _ ≤ 8; omega) hd hroom) hS (fun st₀ o t h => h) kk2
          · cases hi
        · cases hi
      · cases hi
    · cases hi
  · cases hi
end ZC
theorem zq_inv_z {y : Nat} {i : Instr} {st : List Value} {g : zq_G} {z : Nat} {as r : List Value} (hi : zq_inv y i st g = some (z, as, r)) : z ≠ 0 ∧ z < 208 := by
  unfold zq_inv at hi
  split at hi
  · split at hi
    · rename_i q hq
      dsimp only at hi
      split at hi
      · rename_i hm
        split at hi
        · split at hi
          · cases hi; exact (zq_mq_ok hq).2.2.1 hm.1
          · cases hi
        · cases hi
      · cases hi
    · cases hi
  · split at hi
    · rename_i q hq
      dsimp only at hi
      split at hi
      · rename_i hm
        cases hi; exact (zq_mq_ok hq).2.2.1 hm.1
      · cases hi
    · cases hi
  · split at hi
    · rename_i q hq
      dsimp only at hi
      split at hi
      · rename_i hm
        split at hi
        · split at hi
          · cases hi; exact (zq_mq_ok hq).2.2.1 hm.1
          · cases hi
        · cases hi
      · cases hi
    · cases hi
  · cases hi
section ZM
variable {p : Program} {l : Launch} {e : Env} {s : State} {m : MethodId} {args : Array Value} {below : List Frame} {meth : Method} {c : Code}
variable {X : zq_X} {y : Nat} {g0 gE : zq_G} {vE : Option Value}
theorem zq_run_ok (F : zq_Fr X p s m args meth c y) (hs : zq_H X g0 s.heap) {R : Room} {d Fu : Nat} (hR : d + 1 ≤ R.frames ∧ 200 * (d + 1) ≤ R.locals ∧ gE.1.1 - g0.1.1 ≤ R.cells ∧ gE.1.2.1 - g0.1.2.1 ≤ R.slots) (hcall : ∀ (z : Nat) (as : List Value) (g : zq_G) (v : Option Value) (g2 : zq_G), z ≠ 0 → z < 208 → zq_ev d Fu z as g = some (v, g2) → zq_Met l X d z as g v g2) :
    ∀ (f pc : Nat) (L st : List Value) (g : zq_G), zq_run (zq_ev d Fu) y f pc L st g = some (vE, gE) → ∀ (ls : Array Slot) (H : Heap) (locs : List Loc), zq_loc (zq_B X) (zq_b X) L ls (zq_ml y) → zq_H X g H → va_S (zq_Ad X) s.heap H locs → g0.1.1 ≤ g.1.1 → g0.1.2.1 ≤ g.1.2.1 →
      W p l e R s m args below meth c H locs (g.1.1 - g0.1.1) (g.1.2.1 - g0.1.2.1) (MQ below (zq_Qc X vE gE) args s (gE.1.1 - g0.1.1) (gE.1.2.1 - g0.1.2.1) (zq_Ad X)) (F0 m pc ls (st.map (zq_av X))) := by
  intro f
  induction f with
  | zero => intro pc L st g h; cases h
  | succ f ih =>
    intro pc L st g h ls H locs hl hH hS hg hk0
    have hmono : ∀ (f pc : Nat) (L st : List Value) (g : zq_G), zq_run (zq_ev d Fu) y f pc L st g = some (vE, gE) → g.1.1 ≤ gE.1.1 ∧ g.1.2.1 ≤ gE.1.2.1 := fun f pc L st g h => zq_run_mono (fun z as g v g2 h => zq_ev_mono d Fu z as g v g2 h) f pc L st g vE gE h
    unfold zq_run at h
    split at h
    · cases h
    · rename_i i len hcd
      obtain ⟨hd, hlen⟩ := zq_cd_ok hcd
      split at h
      · rename_i L2 st2 g2 ho
        have h2 := hmono _ _ _ _ _ h
        exact zq_op_ok F hs hd hlen ho hl hH hS hg hk0 (by omega) (fun ls2 H2 locs2 a1 a2 a3 a4 a5 => ih _ _ _ _ h ls2 H2 locs2 a1 a2 a3 a4 a5)
      · split at h
        · rename_i t st2 hj
          exact zq_jmp_ok F hd hlen hj (ih _ _ _ _ h ls H locs hl hH hS hg hk0)
        · split at h
          · rename_i v hr
            cases h
            exact zq_ret_ok F hd hlen hr hH hS
          · split at h
            · rename_i z as r hi
              split at h
              · rename_i v g2 hz
                have h2 := hmono _ _ _ _ _ h
                have h3 := zq_ev_mono _ _ _ _ _ _ _ hz
                have hzr : z ≠ 0 ∧ z < 208 := zq_inv_z hi
                exact zq_inv_ok F hs hd hlen hi (hcall z as g v g2 hzr.1 hzr.2 hz) hl hH hS hg hk0 h3.1 h3.2 (by omega) (fun H2 locs2 a1 a2 => ih _ _ _ _ h ls H2 locs2 hl a1 a2 (by omega) (by omega))
              · cases h
            · cases h
end ZM
