/-! Each instruction that touches the heap, from the small machine to the real one -/
section ZO
variable {p : Program} {l : Launch} {e : Env} {R : Room} {s : State} {m : MethodId} {args : Array Value} {below : List Frame} {meth : Method} {c : Code} {H : Heap} {locs : List Loc} {cells slots : Nat} {Q : State → Prop}
variable {X : zq_X} {y pc : Nat} {g0 g g2 : zq_G} {ls : Array Slot} {L L2 st st2 : List Value}
theorem zq_ad {a : Nat} (h : a < g.1.1) (hH : zq_H X g H) : zq_a (zq_B X) (zq_b X) a = zq_B X + a := by
  unfold zq_a
  rw [if_neg (by have := hH.1; omega)]
theorem zq_getf_ok (F : zq_Fr X p s m args meth c y) (hH : zq_H X g H) {k : Nat} (ho : zq_getf y k L st g = some (L2, st2, g2)) (hd : decode (zq_by y) pc = .ok (.getfield k, 3))
    (kk : g2 = g → L2 = L → W p l e R s m args below meth c H locs cells slots Q (F0 m (pc + 3) ls (st2.map (zq_av X)))) : W p l e R s m args below meth c H locs cells slots Q (F0 m pc ls (st.map (zq_av X))) := by
  obtain ⟨hx, hb, hml, hown, hin, hts, hK, -⟩ := F
  unfold zq_getf at ho
  split at ho
  · rename_i q hq
    obtain ⟨q1, q2, q3, q4, q5⟩ := zq_fq_ok hq
    split at ho
    · rename_i a r
      split at ho
      · rename_i hc
        cases ho
        have ea := zq_ad (X := X) hc.1 hH
        have hE := zq_E_2 (cI := zq_cI X) (cR := zq_cR X) (B := zq_B X) (b := zq_b X) hc.2
        have hw := zq_ws_get (cI := zq_cI X) (cR := zq_cR X) (B := zq_B X) (b := zq_b X) hc.1
        rw [hE] at hw
        show W p l e R s m args below meth c H locs cells slots Q (F0 m pc ls (.ref (zq_a (zq_B X) (zq_b X) a) :: r.map (zq_av X)))
        rw [ea]
        have hv : ((List.range (zq_N q.2.2.1)).map (fun k => zq_v (zq_B X) (zq_b X) (zq_gv q.2.2.1 k a g)))[q.2.2.2.1]? = some (zq_av X (zq_gv q.2.2.1 q.2.2.2.1 a g)) := by
          rw [List.getElem?_map, List.getElem?_range q4]
          rfl
        rw [q1, q2] at q5
        by_cases hn : q.2.2.2.2.1 = 1
        · rw [if_pos hn] at q5
          exact va_getN hx hb hts (zq_tb_in _ q3) hown hK.2.1 hH.2.2.2.2.1 a hw (zq_cl_at _ q3) q.2.2.2.1 q4 (hts _ (zq_tb_at q5 rfl)) (fun _ h => h) hv hd (kk rfl rfl)
        · rw [if_neg hn] at q5
          exact va_get hx hb hts (zq_tb_in _ q3) hown hK.2.1 hH.2.2.2.2.1 a hw (zq_cl_at _ q3) q.2.2.2.1 q4 (hts _ (zq_tb_at q5 rfl)) (fun _ h => h) hv hd (kk rfl rfl)
      · cases ho
    · cases ho
  · cases ho
theorem zq_putf_ok (F : zq_Fr X p s m args meth c y) (hs : zq_H X g0 s.heap) (hg : g0.1.1 ≤ g.1.1) (hH : zq_H X g H) (hS : va_S (zq_Ad X) s.heap H locs) {k : Nat} (ho : zq_putf y k L st g = some (L2, st2, g2)) (hd : decode (zq_by y) pc = .ok (.putfield k, 3))
    (kk : ∀ (H2 : Heap) (locs2 : List Loc), g2.1 = g.1 → L2 = L → zq_H X g2 H2 → va_S (zq_Ad X) s.heap H2 locs2 → W p l e R s m args below meth c H2 locs2 (g.1.1 - g0.1.1) slots Q (F0 m (pc + 3) ls (st2.map (zq_av X)))) : W p l e R s m args below meth c H locs (g.1.1 - g0.1.1) slots Q (F0 m pc ls (st.map (zq_av X))) := by
  obtain ⟨hx, hb, hml, hown, hin, hts, hK, -⟩ := F
  unfold zq_putf at ho
  split at ho
  · rename_i q hq
    obtain ⟨q1, q2, q3, q4, q5⟩ := zq_fq_ok hq
    split at ho
    · rename_i v a r
      split at ho
      · rename_i hc
        obtain ⟨hc, hwf⟩ := hc
        split at ho
        · rename_i g3 hg3
          cases ho
          obtain ⟨p1, p2, p3, p4, p5⟩ := zq_pv_ok hg3
          have ea := zq_ad (X := X) hc.1 hH
          have hE := zq_E_2 (cI := zq_cI X) (cR := zq_cR X) (B := zq_B X) (b := zq_b X) hc.2
          have hw := zq_ws_get (cI := zq_cI X) (cR := zq_cR X) (B := zq_B X) (b := zq_b X) hc.1
          rw [hE] at hw
          show W p l e R s m args below meth c H locs (g.1.1 - g0.1.1) slots Q (F0 m pc ls (zq_av X v :: .ref (zq_a (zq_B X) (zq_b X) a) :: st2.map (zq_av X)))
          rw [ea]
          rw [q1, q2] at q5
          obtain ⟨f1, f2⟩ := zq_fits q3 q4 (zq_B X) (zq_b X) p5
          have hset : (zq_W0 X g).set a (zq_B X + a, .inr (q.2.2.1, ((List.range (zq_N q.2.2.1)).map (fun k => zq_v (zq_B X) (zq_b X) (zq_gv q.2.2.1 k a g))).set q.2.2.2.1 (zq_av X v))) = zq_W0 X g2 := by
            refine zq_ws_set (by rw [p1]) hc.1 (fun z hz => zq_E_congr (by rw [p1]) (p2 z hz).1 (p2 z hz).2.1 (p2 z hz).2.2) ?_
            rw [zq_E_2 (c := q.2.2.1) (by rw [p1]; exact hc.2)]
            congr 2
            refine (zq_map_set (by show zq_v _ _ _ = _; rw [p3]) (fun j hj => ?_)).symm
            show zq_v _ _ _ = zq_v _ _ _
            rw [p4 j hj]
          have hend : ∀ (H1 : Heap) (locs1 : List Loc), va_P (zq_D X) zq_cl ((zq_W0 X g).set a (zq_B X + a, .inr (q.2.2.1, ((List.range (zq_N q.2.2.1)).map (fun k => zq_v (zq_B X) (zq_b X) (zq_gv q.2.2.1 k a g))).set q.2.2.2.1 (zq_av X v)))) H1 → va_D (zq_Ad X) ((zq_W0 X g).set a (zq_B X + a, .inr (q.2.2.1, ((List.range (zq_N q.2.2.1)).map (fun k => zq_v (zq_B X) (zq_b X) (zq_gv q.2.2.1 k a g))).set q.2.2.2.1 (zq_av X v)))) → va_S (zq_Ad X) s.heap H1 locs1 → W p l e R s m args below meth c H1 locs1 (g.1.1 - g0.1.1) slots Q (F0 m (pc + 3) ls (st2.map (zq_av X))) := by
            intro H1 locs1 hP1 _ hS1
            rw [hset] at hP1
            refine zq_size fun hz => kk H1 locs1 p1 rfl (zq_back hs.2.2.2.1 hs.2.2.2.2.2 hH p1 ?_ hP1 hS1 hg hz) hS1
            exact (p2 1000 (by have := hH.1; have := hc.1; omega)).1
          have hl : q.2.2.2.1 < ((List.range (zq_N q.2.2.1)).map (fun k => zq_v (zq_B X) (zq_b X) (zq_gv q.2.2.1 k a g))).length := by simp; exact q4
          unfold zq_wf at hwf
          by_cases hfin : (zq_T q.2.2.1 q.2.2.2.1).2.2.2 = true
          · rw [if_pos hfin] at hwf
            simp only [decide_eq_true_eq] at hwf
            rw [if_neg hwf.1] at q5
            exact va_putF hx hb hts (zq_tb_in _ q3) (zq_ty q.2.2.1) (zq_ty_ok _ q3) (zq_nn _ q3) hown hK.2.1 hH.2.2.2.2.1 (zq_ws_D _ _ _ _ _) hS a hw (zq_cl_at _ q3) q.2.2.2.1 q4 (hts _ (zq_tb_at q5 rfl)) (fun _ h => h) hfin (hin hwf.2.1) (by rw [zq_T1 _ q3 _ q4, hwf.2.2]) (zq_ty_ok _ q3 _ q4) f1 f2 hl hd hend
          · have hfin2 : (zq_T q.2.2.1 q.2.2.2.1).2.2.2 = false := by simpa using hfin
            by_cases hn : q.2.2.2.2.1 = 1
            · rw [if_pos hn] at q5
              exact va_putN hx hb hts (zq_tb_in _ q3) (zq_ty q.2.2.1) (zq_ty_ok _ q3) (zq_nn _ q3) hown hK.2.1 hH.2.2.2.2.1 (zq_ws_D _ _ _ _ _) hS a hw (zq_cl_at _ q3) q.2.2.2.1 q4 (hts _ (zq_tb_at q5 rfl)) (fun _ h => h) hfin2 (zq_ty_ok _ q3 _ q4) f1 f2 hl hd hend
            · rw [if_neg hn] at q5
              exact va_put hx hb hts (zq_tb_in _ q3) (zq_ty q.2.2.1) (zq_ty_ok _ q3) (zq_nn _ q3) hown hK.2.1 hH.2.2.2.2.1 (zq_ws_D _ _ _ _ _) hS a hw (zq_cl_at _ q3) q.2.2.2.1 q4 (hts _ (zq_tb_at q5 rfl)) (fun _ h => h) hfin2 (zq_ty_ok _ q3 _ q4) f1 f2 hl hd hend
        · cases ho
      · cases ho
    · cases ho
  · cases ho
theorem zq_iald_ok (F : zq_Fr X p s m args meth c y) (hs : zq_H X g0 s.heap) (hH : zq_H X g H) (hS : va_S (zq_Ad X) s.heap H locs) (ho : zq_iald L st g = some (L2, st2, g2)) (hd : decode (zq_by y) pc = .ok (.iaload, 1))
    (kk : g2 = g → L2 = L → W p l e R s m args below meth c H locs cells slots Q (F0 m (pc + 1) ls (st2.map (zq_av X)))) : W p l e R s m args below meth c H locs cells slots Q (F0 m pc ls (st.map (zq_av X))) := by
  obtain ⟨hx, hb, hml, hown, hin, hts, hK, -⟩ := F
  unfold zq_iald at ho
  split at ho
  · rename_i i a r
    split at ho
    · rename_i hc
      cases ho
      show W p l e R s m args below meth c H locs cells slots Q (F0 m pc ls (.int i :: .ref (zq_a (zq_B X) (zq_b X) a) :: r.map (zq_av X)))
      by_cases h1 : a = 1000
      · subst h1
        have ea : zq_a (zq_B X) (zq_b X) 1000 = zq_b X := rfl
        rw [ea]
        have hsh := hH.2.1
        have hix : vp_in i X.2.2.2.2.1 := by have h := hc.2.2; rw [hsh] at h; exact h
        have hlt : i.toNatClampNeg < X.2.2.2.2.1 := Nat.not_le.mp fun q => hix (Or.inr q)
        have hX2 : va_X (zq_b X) X.2.2.2.2.1 X.2.2.2.2.2 s s.heap := va_X.kept hK.2.2.1 (hs.2.2.2.2.2 _ hK.2.2.2)
        refine va_sld hx hb hX2 (by have := hs.2.2.2.1; have := hK.2.2.2; omega) (by show ¬ zq_B X ≤ zq_b X; have := hK.2.2.2; omega) hS hix hd ?_
        have hv := hH.2.2.1 _ hlt
        rw [← hv]
        exact kk rfl rfl
      · have ha : a < g.1.1 := by rcases hc.1 with h | h; exact h; exact absurd h h1
        rw [zq_ad (X := X) ha hH]
        have hw := zq_ws_get (cI := zq_cI X) (cR := zq_cR X) (B := zq_B X) (b := zq_b X) ha
        rw [zq_E_0 hc.2.1] at hw
        exact va_iald hx hb hK.2.1 hH.2.2.2.2.1 a 0 hw rfl hc.2.2 hd (kk rfl rfl)
    · cases ho
  · cases ho
theorem zq_aald_ok (F : zq_Fr X p s m args meth c y) (hH : zq_H X g H) (ho : zq_aald L st g = some (L2, st2, g2)) (hd : decode (zq_by y) pc = .ok (.aaload, 1))
    (kk : g2 = g → L2 = L → W p l e R s m args below meth c H locs cells slots Q (F0 m (pc + 1) ls (st2.map (zq_av X)))) : W p l e R s m args below meth c H locs cells slots Q (F0 m pc ls (st.map (zq_av X))) := by
  obtain ⟨hx, hb, hml, hown, hin, hts, hK, -⟩ := F
  unfold zq_aald at ho
  split at ho
  · rename_i i a r
    split at ho
    · rename_i hc
      cases ho
      show W p l e R s m args below meth c H locs cells slots Q (F0 m pc ls (.int i :: .ref (zq_a (zq_B X) (zq_b X) a) :: r.map (zq_av X)))
      rw [zq_ad (X := X) hc.1 hH]
      have hw := zq_ws_get (cI := zq_cI X) (cR := zq_cR X) (B := zq_B X) (b := zq_b X) hc.1
      rw [zq_E_1 hc.2.2.1] at hw
      refine va_aldq hx hb hK.2.1 hH.2.2.2.2.1 a 1 hw rfl hc.2.2.2 hd ?_
      have h := kk rfl rfl
      rw [List.map_cons, show zq_av X (va_rf (g.2.2.2 a i.toNatClampNeg)) = va_rf ((g.2.2.2 a i.toNatClampNeg).map (zq_a (zq_B X) (zq_b X))) from zq_v_rf _ _ _] at h
      exact h
    · cases ho
  · cases ho
theorem zq_alen_ok (F : zq_Fr X p s m args meth c y) (hs : zq_H X g0 s.heap) (hH : zq_H X g H) (hS : va_S (zq_Ad X) s.heap H locs) (ho : zq_alen L st g = some (L2, st2, g2)) (hd : decode (zq_by y) pc = .ok (.arraylength, 1))
    (kk : g2 = g → L2 = L → W p l e R s m args below meth c H locs cells slots Q (F0 m (pc + 1) ls (st2.map (zq_av X)))) : W p l e R s m args below meth c H locs cells slots Q (F0 m pc ls (st.map (zq_av X))) := by
  obtain ⟨hx, hb, hml, hown, hin, hts, hK, -⟩ := F
  unfold zq_alen at ho
  split at ho
  · rename_i a r
    show W p l e R s m args below meth c H locs cells slots Q (F0 m pc ls (.ref (zq_a (zq_B X) (zq_b X) a) :: r.map (zq_av X)))
    split at ho
    · rename_i hc
      cases ho
      by_cases h1 : a = 1000
      · subst h1
        have ea : zq_a (zq_B X) (zq_b X) 1000 = zq_b X := rfl
        rw [ea]
        have hX2 : va_X (zq_b X) X.2.2.2.2.1 X.2.2.2.2.2 s s.heap := va_X.kept hK.2.2.1 (hs.2.2.2.2.2 _ hK.2.2.2)
        refine va_slen hx hb hX2 (by have := hs.2.2.2.1; have := hK.2.2.2; omega) (by show ¬ zq_B X ≤ zq_b X; have := hK.2.2.2; omega) hS hd ?_
        have h := kk rfl rfl
        rw [hH.2.1] at h
        exact h
      · have ha : a < g.1.1 := by rcases hc.1 with h | h; exact h; exact absurd h h1
        rw [zq_ad (X := X) ha hH]
        have hw := zq_ws_get (cI := zq_cI X) (cR := zq_cR X) (B := zq_B X) (b := zq_b X) ha
        rw [zq_E_0 hc.2] at hw
        exact va_alen hx hb hK.2.1 hH.2.2.2.2.1 a 0 hw rfl rfl hd (kk rfl rfl)
    · split at ho
      · rename_i hc
        cases ho
        rw [zq_ad (X := X) hc.1 hH]
        have hw := zq_ws_get (cI := zq_cI X) (cR := zq_cR X) (B := zq_B X) (b := zq_b X) hc.1
        rw [zq_E_1 hc.2.2] at hw
        exact va_alen hx hb hK.2.1 hH.2.2.2.2.1 a 1 hw rfl rfl hd (kk rfl rfl)
      · cases ho
  · cases ho
theorem zq_iast_ok (F : zq_Fr X p s m args meth c y) (hs : zq_H X g0 s.heap) (hg : g0.1.1 ≤ g.1.1) (hH : zq_H X g H) (hS : va_S (zq_Ad X) s.heap H locs) (ho : zq_iast L st g = some (L2, st2, g2)) (hd : decode (zq_by y) pc = .ok (.iastore, 1))
    (kk : ∀ (H2 : Heap) (locs2 : List Loc), g2.1 = g.1 → L2 = L → zq_H X g2 H2 → va_S (zq_Ad X) s.heap H2 locs2 → W p l e R s m args below meth c H2 locs2 (g.1.1 - g0.1.1) slots Q (F0 m (pc + 1) ls (st2.map (zq_av X)))) : W p l e R s m args below meth c H locs (g.1.1 - g0.1.1) slots Q (F0 m pc ls (st.map (zq_av X))) := by
  obtain ⟨hx, hb, hml, hown, hin, hts, hK, -⟩ := F
  unfold zq_iast at ho
  split at ho
  · rename_i x i a r
    split at ho
    · rename_i hc
      cases ho
      show W p l e R s m args below meth c H locs (g.1.1 - g0.1.1) slots Q (F0 m pc ls (.int x :: .int i :: .ref (zq_a (zq_B X) (zq_b X) a) :: st2.map (zq_av X)))
      rw [zq_ad (X := X) hc.1 hH]
      have hw := zq_ws_get (cI := zq_cI X) (cR := zq_cR X) (B := zq_B X) (b := zq_b X) hc.1
      rw [zq_E_0 hc.2.2.1] at hw
      refine va_iast hx hb hK.2.1 hH.2.2.2.2.1 (zq_ws_D _ _ _ _ _) hS a 0 hw rfl hc.2.2.2 hd fun H1 locs1 hP1 _ hS1 => ?_
      have hset : (zq_W0 X g).set a (zq_B X + a, .inl (zq_cI X, (g.1.2.2 a).2, .inl (upd (g.2.1 a) i.toNatClampNeg x))) = zq_W0 X (g.1, zq_u g.2.1 a i.toNatClampNeg x, g.2.2.1, g.2.2.2) := by
        refine zq_ws_set rfl hc.1 (fun z hz => zq_E_congr rfl (zq_u_ne hz) rfl rfl) ?_
        refine Eq.trans (zq_E_0 (by exact hc.2.2.1)) ?_
        congr 3
        show Sum.inl (zq_u g.2.1 a i.toNatClampNeg x a) = Sum.inl (upd (g.2.1 a) i.toNatClampNeg x)
        congr 1
        funext j
        unfold zq_u upd
        by_cases hj : j = i.toNatClampNeg
        · simp [hj]
        · simp [hj]
      rw [hset] at hP1
      exact zq_size fun hz => kk H1 locs1 rfl rfl (zq_back hs.2.2.2.1 hs.2.2.2.2.2 hH rfl (zq_u_ne (Ne.symm hc.2.1)) hP1 hS1 hg hz) hS1
    · cases ho
  · cases ho
theorem zq_aast_ok (F : zq_Fr X p s m args meth c y) (hs : zq_H X g0 s.heap) (hg : g0.1.1 ≤ g.1.1) (hH : zq_H X g H) (hS : va_S (zq_Ad X) s.heap H locs) (ho : zq_aast L st g = some (L2, st2, g2)) (hd : decode (zq_by y) pc = .ok (.aastore, 1))
    (kk : ∀ (H2 : Heap) (locs2 : List Loc), g2.1 = g.1 → L2 = L → zq_H X g2 H2 → va_S (zq_Ad X) s.heap H2 locs2 → W p l e R s m args below meth c H2 locs2 (g.1.1 - g0.1.1) slots Q (F0 m (pc + 1) ls (st2.map (zq_av X)))) : W p l e R s m args below meth c H locs (g.1.1 - g0.1.1) slots Q (F0 m pc ls (st.map (zq_av X))) := by
  obtain ⟨hx, hb, hml, hown, hin, hts, hK, -⟩ := F
  unfold zq_aast at ho
  split at ho
  · rename_i x i a r
    split at ho
    · rename_i hc
      cases ho
      obtain ⟨c1, c2, c3, c4, c5, c6⟩ := hc
      show W p l e R s m args below meth c H locs (g.1.1 - g0.1.1) slots Q (F0 m pc ls (.ref (zq_a (zq_B X) (zq_b X) x) :: .int i :: .ref (zq_a (zq_B X) (zq_b X) a) :: st2.map (zq_av X)))
      rw [zq_ad (X := X) c1 hH, zq_ad (X := X) c6.1 hH]
      have hw := zq_ws_get (cI := zq_cI X) (cR := zq_cR X) (B := zq_B X) (b := zq_b X) c1
      rw [zq_E_1 c3] at hw
      have hw2 := zq_ws_get (cI := zq_cI X) (cR := zq_cR X) (B := zq_B X) (b := zq_b X) c6.1
      rw [zq_E_2 c6.2] at hw2
      refine va_astq hx hb hK.2.1 hH.2.2.2.2.1 (zq_ws_D _ _ _ _ _) hS a 1 x 3 hw (r := (zq_cn 3, zq_T 3, zq_N 3)) rfl hw2 (zq_cl_at 3 (by decide)) c4 hd fun H1 locs1 hP1 _ hS1 => ?_
      have hset : (zq_W0 X g).set a (zq_B X + a, .inl (zq_cR X, (g.1.2.2 a).2, .inr (.inr (.inr (.inr (va_up (fun k => (g.2.2.2 a k).map (zq_a (zq_B X) (zq_b X))) i.toNatClampNeg (some (zq_B X + x)))))))) = zq_W0 X (g.1, g.2.1, g.2.2.1, zq_u g.2.2.2 a i.toNatClampNeg (some x)) := by
        refine zq_ws_set rfl c1 (fun z hz => zq_E_congr rfl rfl rfl (zq_u_ne hz)) ?_
        refine Eq.trans (zq_E_1 (by exact c3)) ?_
        congr 7
        funext j
        show (zq_u g.2.2.2 a i.toNatClampNeg (some x) a j).map _ = _
        unfold zq_u va_up
        by_cases hj : j = i.toNatClampNeg
        · simp [hj, zq_ad (X := X) c6.1 hH]
        · simp [hj]
      rw [hset] at hP1
      exact zq_size fun hz => kk H1 locs1 rfl rfl (zq_back hs.2.2.2.1 hs.2.2.2.2.2 hH rfl rfl hP1 hS1 hg hz) hS1
    · cases ho
  · cases ho
theorem zq_copy_ok (F : zq_Fr X p s m args meth c y) (hs : zq_H X g0 s.heap) (hg : g0.1.1 ≤ g.1.1) (hH : zq_H X g H) (hS : va_S (zq_Ad X) s.heap H locs) (hsz : ls.size = zq_ml y) (hR : 1 ≤ R.frames ∧ 100 ≤ R.locals) {k i : Nat} (hl : lw_tbl[i]? = some (.methodLink (zq_cn (zq_own y)) k arraycopyName)) (ho : zq_copy L st g = some (L2, st2, g2)) (hd : decode (zq_by y) pc = .ok (.invokestatic k, 3))
    (kk : ∀ (H2 : Heap) (locs2 : List Loc), g2.1 = g.1 → L2 = L → zq_H X g2 H2 → va_S (zq_Ad X) s.heap H2 locs2 → W p l e R s m args below meth c H2 locs2 (g.1.1 - g0.1.1) slots Q (F0 m (pc + 3) ls (st2.map (zq_av X)))) : W p l e R s m args below meth c H locs (g.1.1 - g0.1.1) slots Q (F0 m pc ls (st.map (zq_av X))) := by
  obtain ⟨hx, hb, hml, hown, hin, hts, hK, -⟩ := F
  unfold zq_copy at ho
  split at ho
  · rename_i n dp a sp a0 r
    split at ho
    · rename_i hc
      cases ho
      obtain ⟨⟨c1, c2, c3⟩, ⟨d1, d2, d3⟩, c4, c5, c6, c7, c8, c9⟩ := hc
      show W p l e R s m args below meth c H locs (g.1.1 - g0.1.1) slots Q (F0 m pc ls (.int n :: .int dp :: .ref (zq_a (zq_B X) (zq_b X) a) :: .int sp :: .ref (zq_a (zq_B X) (zq_b X) a0) :: st2.map (zq_av X)))
      rw [zq_ad (X := X) c1 hH, zq_ad (X := X) d1 hH]
      have hw := zq_ws_get (cI := zq_cI X) (cR := zq_cR X) (B := zq_B X) (b := zq_b X) c1
      rw [zq_E_0 c3] at hw
      have hw2 := zq_ws_get (cI := zq_cI X) (cR := zq_cR X) (B := zq_B X) (b := zq_b X) d1
      rw [zq_E_0 d3] at hw2
      refine va_copyi hx hb (hml.trans hsz.symm) hown (hts _ (zq_tb_at hl rfl)) (hts _ (zq_tb_at zq_w_nat rfl)) (hts _ (zq_tb_at zq_w_cpy rfl)) (hts _ (zq_tb_at zq_w_sys rfl)) hK.2.1 hH.2.2.2.2.1 (zq_ws_D _ _ _ _ _) hS a0 a 0 0 hw2 hw (ty := .int) rfl rfl rfl c4 c5 c6 c7 c8 (fun _ _ => rfl) hR.1 ?_ hd fun H1 locs1 hP1 _ hS1 => ?_
      · have h9 : ((st2.map (zq_av X)).map fun v => v.category).sum ≤ 8 := by rw [zq_v_sum]; exact c9
        have : nativeFrameWords "java/lang/System" "arraycopy" 5 = 7 := by decide +kernel
        omega
      · have hset : (zq_W0 X g).set a (zq_B X + a, .inl (zq_cI X, (g.1.2.2 a).2, .inl (va_cpy (g.2.1 a0) (g.2.1 a) sp.toNatClampNeg dp.toNatClampNeg n.toNatClampNeg))) = zq_W0 X (g.1, zq_w g.2.1 a (va_cpy (g.2.1 a0) (g.2.1 a) sp.toNatClampNeg dp.toNatClampNeg n.toNatClampNeg), g.2.2.1, g.2.2.2) := by
          refine zq_ws_set rfl c1 (fun z hz => zq_E_congr rfl (zq_w_ne hz) rfl rfl) ?_
          refine Eq.trans (zq_E_0 (by exact c3)) ?_
          congr 3
          show Sum.inl (zq_w g.2.1 a _ a) = Sum.inl _
          rw [zq_w_eq]
        rw [hset] at hP1
        exact zq_size fun hz => kk H1 locs1 rfl rfl (zq_back hs.2.2.2.1 hs.2.2.2.2.2 hH rfl (zq_w_ne (Ne.symm c2)) hP1 hS1 hg hz) hS1
    · cases ho
  · cases ho
end ZO
