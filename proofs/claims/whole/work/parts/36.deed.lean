/-! A deed keeps class and reference together; night, fall -/
def cq (hi : zq_I) : rs_T := (hi 32 4, hi 32 5, hi 33, hi 34, hi 32 3)
def mq (hi : zq_I) : rs_T := (hi 60 26, hi 60 27, hi 74, hi 75, 0)
def eqW (W : Nat) (q q2 : rs_T) : Prop := q.1 = q2.1 ∧ q.2.1 = q2.2.1 ∧ ∀ w, w < W → q.2.2.1 w = q2.2.2.1 w ∧ q.2.2.2.1 w = q2.2.2.2.1 w
section Z36
variable {ca cb cs W P D : Nat} {hi : zq_I} {hl : zq_J} {x : Option Nat}
theorem rs_go_eqW {tr tr2 : Nat → Int32} {i : Nat} {q q2 : rs_T} (hW : W ≤ 7) (hx : ∀ w, x = some w → w < W) (ht : ∀ w, w < W → tr w = tr2 w) (h : eqW W q q2) : eqW W (rs_go tr W (ddi x) i q) (rs_go tr2 W (ddi x) i q2) ∧ (rs_go tr W (ddi x) i q).2.2.2.2 = (rs_go tr2 W (ddi x) i q2).2.2.2.2 := by
  obtain ⟨h1, h2, h3⟩ := h
  cases x with
  | none =>
    simp only [ddi, rs_go_r]
    exact ⟨⟨by rw [h1], by rw [h2], h3⟩, trivial⟩
  | some w =>
    have hw := hx w rfl
    simp only [ddi, rs_go_w hW hw]
    refine ⟨⟨by rw [h1, ht w hw], h2, fun v hv => ⟨?_, ?_⟩⟩, trivial⟩
    · show va_up _ w _ v = va_up _ w _ v
      by_cases e : v = w
      · subst e; rw [va_up_self, va_up_self]
      · rw [va_up_ne _ _ e, va_up_ne _ _ e]; exact (h3 v hv).1
    · show va_up _ w _ v = va_up _ w _ v
      by_cases e : v = w
      · subst e; rw [va_up_self, va_up_self, (h3 v hv).2]
      · rw [va_up_ne _ _ e, va_up_ne _ _ e]; exact (h3 v hv).2
theorem cst_o {a : Nat} (h : a < 30 ∨ 34 < a) : cst hi ca D x a = hi a := by
  cases x with
  | none => simp only [cst, zc_re]; rw [zq_u_ne (by omega), zq_u_ne (by omega), zq_u_ne (by omega), zq_u_ne (by omega), zq_u_ne (by omega), zq_u_ne (by omega)]
  | some w => simp only [cst, zc_go]; rw [zq_u_ne (by omega), zq_u_ne (by omega), zq_u_ne (by omega), zq_u_ne (by omega), zq_u_ne (by omega), zq_u_ne (by omega), zq_u_ne (by omega)]
theorem cst_31 (i : Nat) : cst hi ca D x 31 i = if i = D then ddi x else hi 31 i := by
  cases x with
  | none =>
    simp only [cst, zc_re]
    rw [zq_u_ne (by omega), zq_u_ne (by omega), zq_u_ne (by omega), zq_u_ne (by omega), zq_u_ne (by omega)]
    by_cases e : i = D
    · subst e; rw [zq_u_eq, if_pos rfl]; rfl
    · rw [zq_u_kn e, if_neg e]
  | some w =>
    simp only [cst, zc_go]
    rw [zq_u_ne (by omega), zq_u_ne (by omega), zq_u_ne (by omega), zq_u_ne (by omega), zq_u_ne (by omega), zq_u_ne (by omega)]
    by_cases e : i = D
    · subst e; rw [zq_u_eq, if_pos rfl]; rfl
    · rw [zq_u_kn e, if_neg e]
theorem cst_30 : cst hi ca D x 30 1 = nI (D + 1) := by
  cases x with
  | none =>
    simp only [cst, zc_re]
    rw [zq_u_ne (by omega), zq_u_ne (by omega), zq_u_ne (by omega), zq_u_ne (by omega), zq_u_eq]
  | some w =>
    simp only [cst, zc_go]
    rw [zq_u_ne (by omega), zq_u_ne (by omega), zq_u_ne (by omega), zq_u_ne (by omega), zq_u_ne (by omega), zq_u_eq]
theorem cst_q (hca : ca = 36 ∨ ca = 45) (hW : W ≤ 7) (hx : ∀ w, x = some w → w < W) (hd : hi 32 2 = nI D) : cq (cst hi ca D x) = rs_go (hi (ca + 6)) W (ddi x) D (cq hi) ∧ cst hi ca D x 32 2 = nI (D + 1) := by
  cases x with
  | none =>
    simp only [ddi, rs_go_r, cq, cst, zc_re]
    refine ⟨?_, ?_⟩
    · congr 1
    · simp [zq_u, hd, nI_1]
  | some w =>
    have hw := hx w rfl
    have e6 : ca + 6 ≠ 30 ∧ ca + 6 ≠ 31 := by omega
    simp only [ddi, rs_go_w hW hw, cq, cst, zc_go]
    refine ⟨?_, ?_⟩
    · congr 1
      · simp [zq_u, e6]
      · congr 1
        congr 1
        · funext j
          show zq_u _ 32 2 _ 33 j = va_up _ w _ j
          by_cases e : j = w
          · subst e; rw [va_up_self]; simp [zq_u, hd]
          · rw [va_up_ne _ _ e]; simp [zq_u, e]
        · congr 1
          · funext j
            show zq_u _ 32 2 _ 34 j = va_up _ w _ j
            by_cases e : j = w
            · subst e; rw [va_up_self]; simp [zq_u]
            · rw [va_up_ne _ _ e]; simp [zq_u, e]
    · simp [zq_u, hd, nI_1]
theorem mst_o {a : Nat} (h : a ≠ 60 ∧ a ≠ 74 ∧ a ≠ 75 ∧ a ≠ 76) : mst hi D x a = hi a := by
  obtain ⟨h1, h2, h3, h4⟩ := h
  cases x with
  | none => simp only [mst, zm_re, mno, zm_wr]; rw [zq_u_ne h1, zq_u_ne h1, zq_u_ne h1, zq_u_ne h1, zq_w_ne h4]
  | some w => simp only [mst, zm_go, mno, zm_wr]; rw [zq_u_ne h1, zq_u_ne h3, zq_u_ne h2, zq_u_ne h1, zq_u_ne h1, zq_w_ne h4]
theorem mst_76 : mst hi D x 76 = zm_wk hi 76 (17 * D) 7 := by
  cases x with
  | none => simp only [mst, zm_re, mno, zm_wr]; rw [zq_u_ne (by omega), zq_u_ne (by omega), zq_u_ne (by omega), zq_u_ne (by omega), zq_w_eq]
  | some w => simp only [mst, zm_go, mno, zm_wr]; rw [zq_u_ne (by omega), zq_u_ne (by omega), zq_u_ne (by omega), zq_u_ne (by omega), zq_u_ne (by omega), zq_w_eq]
theorem mst_60 {f : Nat} (h : f ≠ 25 ∧ f ≠ 26 ∧ f ≠ 27 ∧ f ≠ 30) : mst hi D x 60 f = hi 60 f := by
  obtain ⟨h1, h2, h3, h4⟩ := h
  cases x with
  | none => simp only [mst, zm_re, mno, zm_wr]; rw [zq_u_kn h1, zq_u_kn h3, zq_u_kn h2, zq_u_kn h4, zq_w_ne (by omega)]
  | some w => simp only [mst, zm_go, mno, zm_wr]; rw [zq_u_kn h1, zq_u_ne (by omega), zq_u_ne (by omega), zq_u_kn h2, zq_u_kn h4, zq_w_ne (by omega)]
theorem mst_30 : mst hi D x 60 30 = nI (D + 1) := by
  cases x with
  | none => simp only [mst, zm_re, mno, zm_wr]; rw [zq_u_kn (by omega), zq_u_kn (by omega), zq_u_kn (by omega), zq_u_eq]
  | some w => simp only [mst, zm_go, mno, zm_wr]; rw [zq_u_kn (by omega), zq_u_ne (by omega), zq_u_ne (by omega), zq_u_kn (by omega), zq_u_eq]
theorem mst_q (hW : W ≤ 7) (hx : ∀ w, x = some w → w < W) (hd : hi 60 25 = nI D) : eqW W (mq (mst hi D x)) (rs_go (zm_tr hi) W (ddi x) D (mq hi)) ∧ mst hi D x 60 25 = nI (D + 1) := by
  have t0 : zm_tr (mno hi D) = zm_tr hi := zm_tr_fr (by unfold mno zm_wr; rw [zq_u_ne (by omega), zq_w_ne (by omega)]) (by unfold mno zm_wr; rw [zq_u_ne (by omega), zq_w_ne (by omega)])
  have m4 : mno hi D 74 = hi 74 := by unfold mno zm_wr; rw [zq_u_ne (by omega), zq_w_ne (by omega)]
  have m5 : mno hi D 75 = hi 75 := by unfold mno zm_wr; rw [zq_u_ne (by omega), zq_w_ne (by omega)]
  have m6 : ∀ f, f ≠ 30 → mno hi D 60 f = hi 60 f := fun f hf => by unfold mno zm_wr; rw [zq_u_kn hf, zq_w_ne (by omega)]
  have m25 := m6 25 (by omega)
  have m26 := m6 26 (by omega)
  have m27 := m6 27 (by omega)
  cases x with
  | none =>
    simp only [ddi, rs_go_r, mq, mst, zm_re, eqW]
    refine ⟨⟨?_, ?_, fun v hv => ⟨?_, ?_⟩⟩, ?_⟩
    · simp [zq_u, m26]
    · simp [zq_u, m27]
    · simp [zq_u, m4]
    · simp [zq_u, m5]
    · simp [zq_u, m25, hd, nI_1]
  | some w =>
    have hw := hx w rfl
    simp only [ddi, rs_go_w hW hw, mq, mst, zm_go, eqW]
    refine ⟨⟨?_, ?_, fun v hv => ⟨?_, ?_⟩⟩, ?_⟩
    · simp [zq_u, m26, t0]
    · simp [zq_u, m27]
    · by_cases e : v = w
      · subst e; rw [va_up_self]; simp [zq_u, m25, hd]
      · rw [va_up_ne _ _ e]; simp [zq_u, e, m4]
    · by_cases e : v = w
      · subst e; rw [va_up_self]; simp [zq_u, m5]
      · rw [va_up_ne _ _ e]; simp [zq_u, e, m5]
    · simp [zq_u, m25, hd, nI_1]
theorem Sim.step (h : Sim hi hl ca cb cs W P D) (hW0 : 0 < W) (hD : D < 40) (hx : ∀ w, x = some w → w < W) : Sim (mst (cst hi ca D x) D x) hl ca cb cs W P (D + 1) := by
  have hca := h.court
  obtain ⟨s1, s2, ⟨t1, t2, t3, t4, t5⟩, s4, s5, s6, s7⟩ := h
  have hW := s6.1.1
  have wtr : ∀ w, w < W → hi (ca + 6) w = zm_tr hi w := fun w hw => (s6.2.2 w hw).2.2.2.1
  obtain ⟨⟨d0, d1, d2, d3, d4, d5⟩, hdd, ⟨c1, c2, c3, c4⟩, ⟨m1, m2, m3⟩, nn, kk⟩ := s7
  have key : ∀ a, a < 30 ∨ (34 < a ∧ a ≠ 60 ∧ a ≠ 74 ∧ a ≠ 75 ∧ a ≠ 76) → mst (cst hi ca D x) D x a = hi a := fun a ha => by rw [mst_o (by omega), cst_o (by omega)]
  have k60 : ∀ f, f ≠ 25 ∧ f ≠ 26 ∧ f ≠ 27 ∧ f ≠ 30 → mst (cst hi ca D x) D x 60 f = hi 60 f := fun f hf => by rw [mst_60 hf, cst_o (by omega)]
  have ttr : zm_tr (mst (cst hi ca D x) D x) = zm_tr hi := zm_tr_fr (key _ (by omega)) (key _ (by omega))
  have ttc : zm_tr (cst hi ca D x) = zm_tr hi := zm_tr_fr (cst_o (by omega)) (cst_o (by omega))
  obtain ⟨u1, u2⟩ := cst_q (x := x) hca hW hx d4
  have hd5 : cst hi ca D x 60 25 = nI D := by rw [cst_o (by omega)]; exact d5
  obtain ⟨v1, v2⟩ := mst_q (x := x) hW hx hd5
  have mm : mq (cst hi ca D x) = mq hi := by unfold mq; rw [cst_o (by omega), cst_o (by omega), cst_o (by omega)]
  rw [mm, ttc] at v1
  have eC : eqW W (cq hi) (rs (zm_tr hi) W (hi 31) D) := ⟨c1, c2, c4⟩
  have eM : eqW W (mq hi) (rs (zm_tr hi) W (hi 31) D) := ⟨m1, m2, m3⟩
  obtain ⟨gC, gC2⟩ := rs_go_eqW (i := D) hW hx wtr eC
  obtain ⟨gM, -⟩ := rs_go_eqW (tr := zm_tr hi) (i := D) hW hx (fun _ _ => rfl) eM
  have hd31 : ∀ i, i < D → mst (cst hi ca D x) D x 31 i = hi 31 i := fun i h => by rw [mst_o (by omega), cst_31, if_neg (by omega)]
  have hd31D : mst (cst hi ca D x) D x 31 D = ddi x := by rw [mst_o (by omega), cst_31, if_pos rfl]
  have rsi : ∀ i, i ≤ D → rs (zm_tr hi) W (mst (cst hi ca D x) D x 31) i = rs (zm_tr hi) W (hi 31) i := fun i hi' => (rs_cong hW (fun k hk => (hd31 k (by omega)).symm) (fun _ _ => rfl) (fun k hk => hdd k (by omega))).symm
  have rsD : rs (zm_tr hi) W (mst (cst hi ca D x) D x 31) (D + 1) = rs_go (zm_tr hi) W (ddi x) D (rs (zm_tr hi) W (hi 31) D) := by rw [rs_s, hd31D, rsi D (Nat.le_refl _)]
  refine ⟨s1, s2, ⟨?_, t2, t3, ?_, fun f hf => ?_⟩, ?_, ?_, ?_, ?_⟩
  · rw [key 0 (by omega), k60 2 (by omega)]; exact t1
  · rw [key 0 (by omega), k60 0 (by omega)]; exact t4
  · rw [key 35 (by omega), key 61 (by omega)]; exact t5 f hf
  · exact sm_st_fr s4 (fun r hr => ⟨by rw [key _ (by omega)], key _ (by omega)⟩) (key _ (by omega)) (key _ (by omega))
  · exact sm_st_fr s5 (fun r hr => ⟨by rw [key _ (by omega)], key _ (by omega)⟩) (key _ (by omega)) (key _ (by omega))
  · exact sm_ct_fr s6 (fun a ha => key a (by omega)) ⟨k60 _ (by omega), k60 _ (by omega), k60 _ (by omega)⟩
  · unfold sm_dd
    rw [ttr, rsD]
    refine ⟨⟨by omega, fun e => absurd e (by omega), ?_, mst_30, ?_, v2⟩, fun i hi' => ?_, ?_, ?_, fun i hi' => ?_, fun k hk => ?_⟩
    · rw [mst_o (by omega)]; exact cst_30
    · rw [mst_o (by omega)]; exact u2
    · by_cases e : i = D
      · subst e
        rw [hd31D]
        cases x with
        | none => exact Or.inl rfl
        | some w => exact Or.inr ⟨w, hx w rfl, rfl⟩
      · rw [hd31 i (by omega)]; exact hdd i (by omega)
    · rw [← u1] at gC gC2
      rw [mst_o (a := 32) (by omega), mst_o (a := 33) (by omega), mst_o (a := 34) (by omega)]
      exact ⟨gC.1, gC.2.1, gC2, gC.2.2⟩
    · exact ⟨v1.1.trans gM.1, v1.2.1.trans gM.2.1, fun w hw => ⟨(v1.2.2 w hw).1.trans (gM.2.2 w hw).1, (v1.2.2 w hw).2.trans (gM.2.2 w hw).2⟩⟩
    · rw [rsi i (by omega)]
      unfold sm_note
      rw [mst_76]
      by_cases e : i = D
      · subst e
        have sn : ∀ r, r < 17 → zm_wk (cst hi ca i x) 76 (17 * i) 7 (17 * i + r) = zm_sn (cst hi ca i x) r := fun r hr => by rw [zm_wk_in (by omega), show 17 * i + r - 17 * i = r by omega]
        refine ⟨?_, ?_, ?_, fun w hw => ⟨?_, ?_⟩⟩
        · refine (sn 0 (by omega)).trans hd5
        · rw [sn 1 (by omega)]; show cst hi ca i x 60 26 = _; rw [cst_o (by omega)]; exact m1
        · rw [sn 2 (by omega)]; show cst hi ca i x 60 27 = _; rw [cst_o (by omega)]; exact m2
        · rw [show 17 * i + 3 + w = 17 * i + (3 + w) by omega, sn (3 + w) (by omega)]
          unfold zm_sn
          rw [if_neg (by omega), if_neg (by omega), if_neg (by omega), if_pos (by omega), show 3 + w - 3 = w by omega, cst_o (by omega)]
          exact (m3 w hw).1
        · rw [show 17 * i + 10 + w = 17 * i + (10 + w) by omega, sn (10 + w) (by omega)]
          unfold zm_sn
          rw [if_neg (by omega), if_neg (by omega), if_neg (by omega), if_neg (by omega), show 10 + w - 10 = w by omega, cst_o (by omega)]
          exact (m3 w hw).2
      · have so : ∀ j, j < 17 * D → zm_wk (cst hi ca D x) 76 (17 * D) 7 j = hi 76 j := fun j hj => by rw [zm_wk_out (by omega), cst_o (by omega)]
        obtain ⟨n1, n2, n3, n4⟩ := nn i (by omega)
        refine ⟨?_, ?_, ?_, fun w hw => ⟨?_, ?_⟩⟩
        · rw [so _ (by omega)]; exact n1
        · rw [so _ (by omega)]; exact n2
        · rw [so _ (by omega)]; exact n3
        · rw [so _ (by omega)]; exact (n4 w hw).1
        · rw [so _ (by omega)]; exact (n4 w hw).2
    · rw [key (24 + 2 * k) (by omega), key (25 + 2 * k) (by omega), key 77 (by omega)]
      unfold sm_note
      rw [key 78 (by omega)]
      exact kk k hk
end Z36
section Z36b
variable {N : Nat} {x z : Int32}
theorem zb_40 {D : Nat} (hD : D ≤ 40) : (nI D < 40) = (D < 40) := zb_lt (b := 40) (by omega) (by omega)
theorem zb_e40 {D : Nat} (hD : D ≤ 40) : (nI D = 40) = (D = 40) := zb_eq (b := 40) (by omega) (by omega)
theorem p_night : zq_pair N 56 154 [.ref 0] [.ref 60] := by
  intro hi hl ca cb cs W P D h
  have hc := zq_Ct_ok (N := N) (ca := ca) (cb := cb) (cs := cs) h.court
  obtain ⟨⟨w1, w2, w3, w4, w5, w6, -⟩, -⟩ := id h.2.2.2.2.2.1
  obtain ⟨⟨d0, d1, d2, d3, d4, d5⟩, -⟩ := id h.2.2.2.2.2.2
  have hc2 := hc
  unfold zq_Ct at hc2
  by_cases hW0 : W = 0
  · have e0 : (nI W = 0) = True := eq_true (by rw [hW0]; rfl)
    refine ⟨.int (-4), hi, hl, ca, cb, cs, hi, hl, W, P, D, fun Q => ?_, fun Q => ?_, h⟩
    · simp only [zr56_0, zr56_1, zr56_4, zr56_7, zr56_10, zr56_12, zr56_13, zr56_14, zr56_17, zr56_20, zr56_22, zr56_25, zr56_27, zr56_28, zr56_29, zr56_30, zr56_33, zr56_34, zr56_37, zr56_40, zs_x0 N, zh_x0 ca cb cs, hc2, zq_kill_int, zq_kill_ref, zq_kill_ret, zq_kill_null, zq_kill_long, zq_rf_some, zq_rf_none, true_and, and_true, true_implies, not_true_eq_false, not_false_eq_true, false_implies, Bool.true_eq_false, Bool.false_eq_true, nI_1, zb_i0, zb_i1, zb_i2, Option.toList_some, Option.toList_none, List.cons_append, List.nil_append, true_or, or_true, implies_true, zb_it, zb_if, zb_10, zb_00, zb_n5, zb_n2, zb_m1, zb_m3, zb_m9, or_true, true_or, or_false, false_or, w3, e0]
    · simp only [zr154_0, zr154_1, zr154_4, zr154_7, zr154_9, zr154_10, zr154_11, zr154_14, zr154_16, zr154_19, zr154_21, zr154_22, zr154_23, zr154_26, zr154_27, zr154_30, zr154_31, zr154_34, zs_m0 N, zs_m1 N, zs_m2 N, zh_m0 ca cb cs, zq_kill_int, zq_kill_ref, zq_kill_ret, zq_kill_null, zq_kill_long, zq_rf_some, zq_rf_none, true_and, and_true, true_implies, not_true_eq_false, not_false_eq_true, false_implies, Bool.true_eq_false, Bool.false_eq_true, nI_1, zb_i0, zb_i1, zb_i2, Option.toList_some, Option.toList_none, List.cons_append, List.nil_append, true_or, or_true, implies_true, zb_it, zb_if, zb_10, zb_00, zb_n5, zb_n2, zb_m1, zb_m3, zb_m9, or_true, true_or, or_false, false_or, w4, e0]
  · have e0 : (nI W = 0) = False := eq_false (nI_ne0 (by omega) (by omega))
    by_cases hD : D < 40
    · have e1 : (nI D < 40) = True := eq_true (by rw [zb_40 d0]; exact hD)
      have e2 : (nI D = 40) = False := eq_false (by rw [zb_e40 d0]; omega)
      have hs := h.step (x := none) (by omega) hD (by intro w q; cases q)
      refine ⟨.int (nI (D + 1)), cst hi ca D none, hl, ca, cb, cs, mst (cst hi ca D none) D none, hl, W, P, D + 1, fun Q => ?_, fun Q => ?_, hs⟩
      · have q := fun Q => k_EF_doDeed (Q := Q) (N := N) (cb := cb) (cs := cs) (d := 55) (hl := hl) (x := none) h.court w3 w1 (by intro w q; cases q) hD d2
        have e3 := (cst_q (x := none) h.court w1 (by intro w q; cases q) d4).2
        simp only [ddi] at q
        simp only [zr56_0, zr56_1, zr56_4, zr56_7, zr56_10, zr56_12, zr56_13, zr56_14, zr56_17, zr56_20, zr56_22, zr56_25, zr56_27, zr56_28, zr56_29, zr56_30, zr56_33, zr56_34, zr56_37, zr56_40, zs_x0 N, zh_x0 ca cb cs, hc2, zq_kill_int, zq_kill_ref, zq_kill_ret, zq_kill_null, zq_kill_long, zq_rf_some, zq_rf_none, true_and, and_true, true_implies, not_true_eq_false, not_false_eq_true, false_implies, Bool.true_eq_false, Bool.false_eq_true, nI_1, zb_i0, zb_i1, zb_i2, Option.toList_some, Option.toList_none, List.cons_append, List.nil_append, true_or, or_true, implies_true, zb_it, zb_if, zb_10, zb_00, zb_n5, zb_n2, zb_m1, zb_m3, zb_m9, or_true, true_or, or_false, false_or, w3, e0, d2, e1, q, e3]
      · have c4 : cst hi ca D none 60 10 = nI W := by rw [cst_o (by omega)]; exact w4
        have c30 : cst hi ca D none 60 30 = nI D := by rw [cst_o (by omega)]; exact d3
        have e3 := (mst_q (x := none) w1 (by intro w q; cases q) (show cst hi ca D none 60 25 = nI D by rw [cst_o (by omega)]; exact d5)).2
        simp only [mst] at e3
        simp only [zr154_0, zr154_1, zr154_4, zr154_7, zr154_9, zr154_10, zr154_11, zr154_14, zr154_16, zr154_19, zr154_21, zr154_22, zr154_23, zr154_26, zr154_27, zr154_30, zr154_31, zr154_34, zs_m0 N, zs_m1 N, zs_m2 N, zh_m0 ca cb cs, zq_kill_int, zq_kill_ref, zq_kill_ret, zq_kill_null, zq_kill_long, zq_rf_some, zq_rf_none, true_and, and_true, true_implies, not_true_eq_false, not_false_eq_true, false_implies, Bool.true_eq_false, Bool.false_eq_true, nI_1, zb_i0, zb_i1, zb_i2, Option.toList_some, Option.toList_none, List.cons_append, List.nil_append, true_or, or_true, implies_true, zb_it, zb_if, zb_10, zb_00, zb_n5, zb_n2, zb_m1, zb_m3, zb_m9, or_true, true_or, or_false, false_or, c4, c30, e0, e2, k_M_note hD c30, k_M_reigns, e3, mst]
    · have e1 : (nI D < 40) = False := eq_false (by rw [zb_40 d0]; exact hD)
      have e2 : (nI D = 40) = True := eq_true (by rw [zb_e40 d0]; omega)
      refine ⟨.int (-2), hi, hl, ca, cb, cs, hi, hl, W, P, D, fun Q => ?_, fun Q => ?_, h⟩
      · simp only [zr56_0, zr56_1, zr56_4, zr56_7, zr56_10, zr56_12, zr56_13, zr56_14, zr56_17, zr56_20, zr56_22, zr56_25, zr56_27, zr56_28, zr56_29, zr56_30, zr56_33, zr56_34, zr56_37, zr56_40, zs_x0 N, zh_x0 ca cb cs, hc2, zq_kill_int, zq_kill_ref, zq_kill_ret, zq_kill_null, zq_kill_long, zq_rf_some, zq_rf_none, true_and, and_true, true_implies, not_true_eq_false, not_false_eq_true, false_implies, Bool.true_eq_false, Bool.false_eq_true, nI_1, zb_i0, zb_i1, zb_i2, Option.toList_some, Option.toList_none, List.cons_append, List.nil_append, true_or, or_true, implies_true, zb_it, zb_if, zb_10, zb_00, zb_n5, zb_n2, zb_m1, zb_m3, zb_m9, or_true, true_or, or_false, false_or, w3, e0, d2, e1]
      · simp only [zr154_0, zr154_1, zr154_4, zr154_7, zr154_9, zr154_10, zr154_11, zr154_14, zr154_16, zr154_19, zr154_21, zr154_22, zr154_23, zr154_26, zr154_27, zr154_30, zr154_31, zr154_34, zs_m0 N, zs_m1 N, zs_m2 N, zh_m0 ca cb cs, zq_kill_int, zq_kill_ref, zq_kill_ret, zq_kill_null, zq_kill_long, zq_rf_some, zq_rf_none, true_and, and_true, true_implies, not_true_eq_false, not_false_eq_true, false_implies, Bool.true_eq_false, Bool.false_eq_true, nI_1, zb_i0, zb_i1, zb_i2, Option.toList_some, Option.toList_none, List.cons_append, List.nil_append, true_or, or_true, implies_true, zb_it, zb_if, zb_10, zb_00, zb_n5, zb_n2, zb_m1, zb_m3, zb_m9, or_true, true_or, or_false, false_or, w4, e0, d3, e2]
theorem p_fall : zq_pair N 53 138 [.ref 0, .int x] [.ref 60, .int x] := by
  intro hi hl ca cb cs W P D h
  have hc := zq_Ct_ok (N := N) (ca := ca) (cb := cb) (cs := cs) h.court
  have hct := h.2.2.2.2.2.1
  obtain ⟨⟨w1, w2, w3, w4, w5, w6, -⟩, -, wa⟩ := id hct
  obtain ⟨⟨d0, d1, d2, d3, d4, d5⟩, -⟩ := id h.2.2.2.2.2.2
  have hc2 := hc
  unfold zq_Ct at hc2
  by_cases hx : ¬ x < 0 ∧ x < nI W
  · obtain ⟨w, hw, rfl⟩ := nI_of hx.1
    have hw2 : w < W := (nI_ltI (by omega) (by omega)).mp hx.2
    have hw7 : w < 7 := by omega
    have x1 : zq_xS (nI w) 7 := zb_x (by omega) (by omega)
    have x2 : (nI w).toNatClampNeg = w := zb_cl (by omega)
    generalize hb : zm_can hi W (zb_set (zm_away hi (hi 60 25)) P) w = b
    cases b with
    | false =>
      refine ⟨.int (-4), hi, hl, ca, cb, cs, hi, hl, W, P, D, fun Q => ?_, fun Q => ?_, h⟩
      · simp only [zr53_0, zr53_1, zr53_4, zr53_5, zr53_8, zr53_11, zr53_12, zr53_13, zr53_14, zr53_17, zr53_18, zr53_19, zr53_20, zr53_21, zr53_24, zr53_26, zr53_27, zr53_28, zr53_31, zr53_34, zr53_36, zr53_39, zr53_41, zr53_42, zr53_43, zr53_44, zr53_47, zr53_48, zr53_51, zr53_54, zr53_55, zr53_56, zs_x0 N, zh_x0 ca cb cs, hc2, zq_kill_int, zq_kill_ref, zq_kill_ret, zq_kill_null, zq_kill_long, zq_rf_some, zq_rf_none, true_and, and_true, true_implies, not_true_eq_false, not_false_eq_true, false_implies, Bool.true_eq_false, Bool.false_eq_true, nI_1, zb_i0, zb_i1, zb_i2, Option.toList_some, Option.toList_none, List.cons_append, List.nil_append, true_or, or_true, implies_true, zb_it, zb_if, zb_10, zb_00, zb_n5, zb_n2, zb_m1, zb_m3, zb_m9, or_true, true_or, or_false, false_or, k_Court_hasWay hc, zc_has, w3, hx, k_EF_openNow h, zb_bit w1 hw2, hb, and_self, decide_true]
      · simp only [zr138_0, zr138_1, zr138_2, zr138_5, zr138_8, zr138_9, zr138_10, zr138_11, zr138_12, zr138_15, zr138_18, zr138_20, zr138_21, zr138_22, zr138_25, zr138_27, zr138_30, zr138_32, zr138_33, zr138_34, zr138_37, zr138_38, zr138_39, zr138_42, zr138_43, zr138_44, zr138_47, zs_m0 N, zs_m1 N, zs_m2 N, zh_m0 ca cb cs, zq_kill_int, zq_kill_ref, zq_kill_ret, zq_kill_null, zq_kill_long, zq_rf_some, zq_rf_none, true_and, and_true, true_implies, not_true_eq_false, not_false_eq_true, false_implies, Bool.true_eq_false, Bool.false_eq_true, nI_1, zb_i0, zb_i1, zb_i2, Option.toList_some, Option.toList_none, List.cons_append, List.nil_append, true_or, or_true, implies_true, zb_it, zb_if, zb_10, zb_00, zb_n5, zb_n2, zb_m1, zb_m3, zb_m9, or_true, true_or, or_false, false_or, k_M_isWay w4 w1, hx, k_M_canDo w4 w1 hw7 w6 w2 (sm_nz hct), hb, and_self, decide_true]
    | true =>
      by_cases hD : D < 40
      · have e1 : (nI D < 40) = True := eq_true (by rw [zb_40 d0]; exact hD)
        have e2 : (nI D = 40) = False := eq_false (by rw [zb_e40 d0]; omega)
        have hxx : ∀ v, some w = some v → v < W := by intro v q; cases q; exact hw2
        have hs := h.step (x := some w) (by omega) hD hxx
        refine ⟨.int (zm_tr hi w), cst hi ca D (some w), hl, ca, cb, cs, mst (cst hi ca D (some w)) D (some w), hl, W, P, D + 1, fun Q => ?_, fun Q => ?_, hs⟩
        · have q := fun Q => k_EF_doDeed (Q := Q) (N := N) (cb := cb) (cs := cs) (d := 55) (hl := hl) (x := some w) h.court w3 w1 hxx hD d2
          have e3 : cst hi ca D (some w) (ca + 6) w = zm_tr hi w := by rw [cst_o (by have := h.court; omega)]; exact (wa w hw2).2.2.2.1
          simp only [ddi] at q
          simp only [zr53_0, zr53_1, zr53_4, zr53_5, zr53_8, zr53_11, zr53_12, zr53_13, zr53_14, zr53_17, zr53_18, zr53_19, zr53_20, zr53_21, zr53_24, zr53_26, zr53_27, zr53_28, zr53_31, zr53_34, zr53_36, zr53_39, zr53_41, zr53_42, zr53_43, zr53_44, zr53_47, zr53_48, zr53_51, zr53_54, zr53_55, zr53_56, zs_x0 N, zh_x0 ca cb cs, hc2, zq_kill_int, zq_kill_ref, zq_kill_ret, zq_kill_null, zq_kill_long, zq_rf_some, zq_rf_none, true_and, and_true, true_implies, not_true_eq_false, not_false_eq_true, false_implies, Bool.true_eq_false, Bool.false_eq_true, nI_1, zb_i0, zb_i1, zb_i2, Option.toList_some, Option.toList_none, List.cons_append, List.nil_append, true_or, or_true, implies_true, zb_it, zb_if, zb_10, zb_00, zb_n5, zb_n2, zb_m1, zb_m3, zb_m9, or_true, true_or, or_false, false_or, k_Court_hasWay hc, zc_has, w3, hx, k_EF_openNow h, zb_bit w1 hw2, hb, and_self, decide_true, d2, e1, q, x1, x2, e3]
        · have c4 : cst hi ca D (some w) 60 10 = nI W := by rw [cst_o (by omega)]; exact w4
          have c30 : cst hi ca D (some w) 60 30 = nI D := by rw [cst_o (by omega)]; exact d3
          have c6 : cst hi ca D (some w) 60 12 = nI P := by rw [cst_o (by omega)]; exact w6
          have cz : ∀ k, k < P → ¬ cst hi ca D (some w) 67 k = 0 := fun k hk => by rw [cst_o (by omega)]; exact sm_nz hct k hk
          have cf : ∀ a, 60 ≤ a → cst hi ca D (some w) a = hi a := fun a ha => cst_o (by omega)
          have cc : zm_can (cst hi ca D (some w)) W (zb_set (zm_away (cst hi ca D (some w)) (cst hi ca D (some w) 60 25)) P) w = true := by rw [zm_can_fr cf, zm_away_fr cf, cf 60 (by omega)]; exact hb
          have e3 : zm_tr (zm_go (mno (cst hi ca D (some w)) D) w) w = zm_tr hi w := by
            have q := @mst_o D (cst hi ca D (some w)) (some w)
            rw [show zm_go (mno (cst hi ca D (some w)) D) w = mst (cst hi ca D (some w)) D (some w) from rfl, zm_tr_fr (hi := hi) (by rw [mst_o (by omega), cst_o (by omega)]) (by rw [mst_o (by omega), cst_o (by omega)])]
          simp only [zr138_0, zr138_1, zr138_2, zr138_5, zr138_8, zr138_9, zr138_10, zr138_11, zr138_12, zr138_15, zr138_18, zr138_20, zr138_21, zr138_22, zr138_25, zr138_27, zr138_30, zr138_32, zr138_33, zr138_34, zr138_37, zr138_38, zr138_39, zr138_42, zr138_43, zr138_44, zr138_47, zs_m0 N, zs_m1 N, zs_m2 N, zh_m0 ca cb cs, zq_kill_int, zq_kill_ref, zq_kill_ret, zq_kill_null, zq_kill_long, zq_rf_some, zq_rf_none, true_and, and_true, true_implies, not_true_eq_false, not_false_eq_true, false_implies, Bool.true_eq_false, Bool.false_eq_true, nI_1, zb_i0, zb_i1, zb_i2, Option.toList_some, Option.toList_none, List.cons_append, List.nil_append, true_or, or_true, implies_true, zb_it, zb_if, zb_10, zb_00, zb_n5, zb_n2, zb_m1, zb_m3, zb_m9, or_true, true_or, or_false, false_or, k_M_isWay c4 w1, hx, k_M_canDo c4 w1 hw7 c6 w2 cz, cc, and_self, decide_true, c30, e2, k_M_note hD c30, k_M_play hw7, k_M_troubleOf hw7, e3, mst]
      · have e1 : (nI D < 40) = False := eq_false (by rw [zb_40 d0]; exact hD)
        have e2 : (nI D = 40) = True := eq_true (by rw [zb_e40 d0]; omega)
        refine ⟨.int (-2), hi, hl, ca, cb, cs, hi, hl, W, P, D, fun Q => ?_, fun Q => ?_, h⟩
        · simp only [zr53_0, zr53_1, zr53_4, zr53_5, zr53_8, zr53_11, zr53_12, zr53_13, zr53_14, zr53_17, zr53_18, zr53_19, zr53_20, zr53_21, zr53_24, zr53_26, zr53_27, zr53_28, zr53_31, zr53_34, zr53_36, zr53_39, zr53_41, zr53_42, zr53_43, zr53_44, zr53_47, zr53_48, zr53_51, zr53_54, zr53_55, zr53_56, zs_x0 N, zh_x0 ca cb cs, hc2, zq_kill_int, zq_kill_ref, zq_kill_ret, zq_kill_null, zq_kill_long, zq_rf_some, zq_rf_none, true_and, and_true, true_implies, not_true_eq_false, not_false_eq_true, false_implies, Bool.true_eq_false, Bool.false_eq_true, nI_1, zb_i0, zb_i1, zb_i2, Option.toList_some, Option.toList_none, List.cons_append, List.nil_append, true_or, or_true, implies_true, zb_it, zb_if, zb_10, zb_00, zb_n5, zb_n2, zb_m1, zb_m3, zb_m9, or_true, true_or, or_false, false_or, k_Court_hasWay hc, zc_has, w3, hx, k_EF_openNow h, zb_bit w1 hw2, hb, and_self, decide_true, d2, e1]
        · simp only [zr138_0, zr138_1, zr138_2, zr138_5, zr138_8, zr138_9, zr138_10, zr138_11, zr138_12, zr138_15, zr138_18, zr138_20, zr138_21, zr138_22, zr138_25, zr138_27, zr138_30, zr138_32, zr138_33, zr138_34, zr138_37, zr138_38, zr138_39, zr138_42, zr138_43, zr138_44, zr138_47, zs_m0 N, zs_m1 N, zs_m2 N, zh_m0 ca cb cs, zq_kill_int, zq_kill_ref, zq_kill_ret, zq_kill_null, zq_kill_long, zq_rf_some, zq_rf_none, true_and, and_true, true_implies, not_true_eq_false, not_false_eq_true, false_implies, Bool.true_eq_false, Bool.false_eq_true, nI_1, zb_i0, zb_i1, zb_i2, Option.toList_some, Option.toList_none, List.cons_append, List.nil_append, true_or, or_true, implies_true, zb_it, zb_if, zb_10, zb_00, zb_n5, zb_n2, zb_m1, zb_m3, zb_m9, or_true, true_or, or_false, false_or, k_M_isWay w4 w1, hx, k_M_canDo w4 w1 hw7 w6 w2 (sm_nz hct), hb, and_self, decide_true, d3, e2]
  · refine ⟨.int (-1), hi, hl, ca, cb, cs, hi, hl, W, P, D, fun Q => ?_, fun Q => ?_, h⟩
    · simp only [zr53_0, zr53_1, zr53_4, zr53_5, zr53_8, zr53_11, zr53_12, zr53_13, zr53_14, zr53_17, zr53_18, zr53_19, zr53_20, zr53_21, zr53_24, zr53_26, zr53_27, zr53_28, zr53_31, zr53_34, zr53_36, zr53_39, zr53_41, zr53_42, zr53_43, zr53_44, zr53_47, zr53_48, zr53_51, zr53_54, zr53_55, zr53_56, zs_x0 N, zh_x0 ca cb cs, hc2, zq_kill_int, zq_kill_ref, zq_kill_ret, zq_kill_null, zq_kill_long, zq_rf_some, zq_rf_none, true_and, and_true, true_implies, not_true_eq_false, not_false_eq_true, false_implies, Bool.true_eq_false, Bool.false_eq_true, nI_1, zb_i0, zb_i1, zb_i2, Option.toList_some, Option.toList_none, List.cons_append, List.nil_append, true_or, or_true, implies_true, zb_it, zb_if, zb_10, zb_00, zb_n5, zb_n2, zb_m1, zb_m3, zb_m9, or_true, true_or, or_false, false_or, k_Court_hasWay hc, zc_has, w3, hx, decide_false]
    · simp only [zr138_0, zr138_1, zr138_2, zr138_5, zr138_8, zr138_9, zr138_10, zr138_11, zr138_12, zr138_15, zr138_18, zr138_20, zr138_21, zr138_22, zr138_25, zr138_27, zr138_30, zr138_32, zr138_33, zr138_34, zr138_37, zr138_38, zr138_39, zr138_42, zr138_43, zr138_44, zr138_47, zs_m0 N, zs_m1 N, zs_m2 N, zh_m0 ca cb cs, zq_kill_int, zq_kill_ref, zq_kill_ret, zq_kill_null, zq_kill_long, zq_rf_some, zq_rf_none, true_and, and_true, true_implies, not_true_eq_false, not_false_eq_true, false_implies, Bool.true_eq_false, Bool.false_eq_true, nI_1, zb_i0, zb_i1, zb_i2, Option.toList_some, Option.toList_none, List.cons_append, List.nil_append, true_or, or_true, implies_true, zb_it, zb_if, zb_10, zb_00, zb_n5, zb_n2, zb_m1, zb_m3, zb_m9, or_true, true_or, or_false, false_or, k_M_isWay w4 w1, hx, decide_false]
end Z36b
