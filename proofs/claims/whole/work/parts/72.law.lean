/-! The law: its start, its loop, its answer -/
theorem zb_and63 (x : Int32) : ∃ j, j < 64 ∧ x &&& 63 = nI j := by
  refine ⟨(x.toBitVec &&& 63#32).toNat, ?_, ?_⟩
  · rw [BitVec.toNat_and]
    exact Nat.lt_of_le_of_lt Nat.and_le_right (by decide)
  · apply Int32.toBitVec_inj.mp
    show x.toBitVec &&& 63#32 = BitVec.ofNat 32 (x.toBitVec &&& 63#32).toNat
    rw [BitVec.ofNat_toNat, BitVec.setWidth_eq]
theorem law_end {N i : Nat} (hN : N ≤ 384) (hi : i ≤ 400) : (nI N - 6 < nI i) = (N < i + 6) := by
  by_cases q : N < 6
  · have e : nI N - 6 < 0 := by
      have key : ∀ n, n < 6 → nI n - 6 < 0 := by decide
      exact key N q
    have h0 : (0 : Int32) ≤ nI i := nI_pos' (by omega)
    rw [eq_true (Int32.lt_of_lt_of_le e h0), eq_true (show N < i + 6 by omega)]
  · have e : nI N - 6 = nI (N - 6) := by
      have := nI_sub' (k := 6) (m := N - 6) (n := N) (by omega)
      exact this
    rw [e, zb_lt (by omega) (by omega)]
    exact propext ⟨fun h => by omega, fun h => by omega⟩
/-- how the law ends -/
def law_Q : Option Value → zq_G → Prop := fun v g => v = some (.int 1) ∧ g.1.1 ≤ 1000 ∧ g.1.2.1 ≤ 7302250
section Z72
variable {N ca cb cs W P D i : Nat} {hi : zq_I} {hl : zq_J}
theorem law_round (h : Sim hi hl ca cb cs W P D) (hN : i + 6 ≤ N) (hN2 : N ≤ 384) : law_st N ca cb cs hi hl i 27 := by
  obtain ⟨j, hj, ej⟩ := zb_and63 (hi 1000 i)
  have x0 : zq_xS (nI i) N := zb_x (by omega) (by omega)
  have y0 : (nI i).toNatClampNeg = i := zb_cl (by omega)
  have go : ∀ Q, zq_P 59 0 27 [.ref 1000, .ref 0, .ref 60, .int (nI i)] [] (zq_SG N, hi, hl, zq_HR ca cb cs) Q = zq_P 59 0 33 [.ref 1000, .ref 0, .ref 60, .int (nI i)] [.int (nI j)] (zq_SG N, hi, hl, zq_HR ca cb cs) Q := fun Q => by
    simp only [zr0_27, zr0_28, zr0_29, zr0_30, zr0_32, zs_1000 N, x0, y0, ej, true_and]
  have case : ∀ pc, (∀ Q, zq_P 59 0 33 [.ref 1000, .ref 0, .ref 60, .int (nI i)] [.int (nI j)] (zq_SG N, hi, hl, zq_HR ca cb cs) Q = zq_P 59 0 pc [.ref 1000, .ref 0, .ref 60, .int (nI i)] [] (zq_SG N, hi, hl, zq_HR ca cb cs) Q) → law_st N ca cb cs hi hl i pc → law_st N ca cb cs hi hl i 27 := by
    intro pc e h
    obtain ⟨hi2, hl2, ca2, cb2, cs2, W2, P2, D2, a1, a2, a3⟩ := h
    exact ⟨hi2, hl2, ca2, cb2, cs2, W2, P2, D2, a1, a2, fun Q => by rw [go, e, a3]⟩
  by_cases hd : 38 < j
  · refine case 1224 (fun Q => zd0_33 (Or.inr ?_)) ⟨hi, hl, ca, cb, cs, W, P, D, rfl, h, fun Q => rfl⟩
    rw [nI_toInt (by omega)]
    omega
  · match j, hd with
    | 0, _ => exact case 204 (fun Q => zr0_33_s0) (law_c0 h hN hN2)
    | 1, _ => exact case 237 (fun Q => zr0_33_s1) (law_c1 h hN hN2)
    | 2, _ => exact case 280 (fun Q => zr0_33_s2) (law_c2 h hN hN2)
    | 3, _ => exact case 313 (fun Q => zr0_33_s3) (law_c3 h hN hN2)
    | 4, _ => exact case 336 (fun Q => zr0_33_s4) (law_c4 h hN hN2)
    | 5, _ => exact case 399 (fun Q => zr0_33_s5) (law_c5 h hN hN2)
    | 6, _ => exact case 422 (fun Q => zr0_33_s6) (law_c6 h hN hN2)
    | 7, _ => exact case 455 (fun Q => zr0_33_s7) (law_c7 h hN hN2)
    | 8, _ => exact case 498 (fun Q => zr0_33_s8) (law_c8 h hN hN2)
    | 9, _ => exact case 521 (fun Q => zr0_33_s9) (law_c9 h hN hN2)
    | 10, _ => exact case 544 (fun Q => zr0_33_s10) (law_c10 h hN hN2)
    | 11, _ => exact case 577 (fun Q => zr0_33_s11) (law_c11 h hN hN2)
    | 12, _ => exact case 610 (fun Q => zr0_33_s12) (law_c12 h hN hN2)
    | 13, _ => exact case 633 (fun Q => zr0_33_s13) (law_c13 h hN hN2)
    | 14, _ => exact case 656 (fun Q => zr0_33_s14) (law_c14 h hN hN2)
    | 15, _ => exact case 669 (fun Q => zr0_33_s15) (law_c15 h hN hN2)
    | 16, _ => exact case 692 (fun Q => zr0_33_s16) (law_c16 h hN hN2)
    | 17, _ => exact case 715 (fun Q => zr0_33_s17) (law_c17 h hN hN2)
    | 18, _ => exact case 738 (fun Q => zr0_33_s18) (law_c18 h hN hN2)
    | 19, _ => exact case 751 (fun Q => zr0_33_s19) (law_c19 h hN hN2)
    | 20, _ => exact case 774 (fun Q => zr0_33_s20) (law_c20 h hN hN2)
    | 21, _ => exact case 807 (fun Q => zr0_33_s21) (law_c21 h hN hN2)
    | 22, _ => exact case 830 (fun Q => zr0_33_s22) (law_c22 h hN hN2)
    | 23, _ => exact case 853 (fun Q => zr0_33_s23) (law_c23 h hN hN2)
    | 24, _ => exact case 876 (fun Q => zr0_33_s24) (law_c24 h hN hN2)
    | 25, _ => exact case 899 (fun Q => zr0_33_s25) (law_c25 h hN hN2)
    | 26, _ => exact case 922 (fun Q => zr0_33_s26) (law_c26 h hN hN2)
    | 27, _ => exact case 955 (fun Q => zr0_33_s27) (law_c27 h hN hN2)
    | 28, _ => exact case 1008 (fun Q => zr0_33_s28) (law_c28 h hN hN2)
    | 29, _ => exact case 1031 (fun Q => zr0_33_s29) (law_c29 h hN hN2)
    | 30, _ => exact case 1054 (fun Q => zr0_33_s30) (law_c30 h hN hN2)
    | 31, _ => exact case 1077 (fun Q => zr0_33_s31) (law_c31 h hN hN2)
    | 32, _ => exact case 1110 (fun Q => zr0_33_s32) (law_c32 h hN hN2)
    | 33, _ => exact case 1123 (fun Q => zr0_33_s33) (law_c33 h hN hN2)
    | 34, _ => exact case 1137 (fun Q => zr0_33_s34) (law_c34 h hN hN2)
    | 35, _ => exact case 1151 (fun Q => zr0_33_s35) (law_c35 h hN hN2)
    | 36, _ => exact case 1174 (fun Q => zr0_33_s36) (law_c36 h hN hN2)
    | 37, _ => exact case 1187 (fun Q => zr0_33_s37) (law_c37 h hN hN2)
    | 38, _ => exact case 1210 (fun Q => zr0_33_s38) (law_c38 h hN hN2)
    | k + 39, hd => exact absurd (by omega) hd
theorem law_loop (hN2 : N ≤ 384) {xs : Nat → Int32} : ∀ m i hi hl ca cb cs W P D, N ≤ i + m → i ≤ 400 → Sim hi hl ca cb cs W P D → zq_P 59 0 18 [.ref 1000, .ref 0, .ref 60, .int (nI i)] [] (zq_SG N, hi, hl, zq_HR ca cb cs) law_Q := by
  intro m
  induction m with
  | zero =>
    intro i hi hl ca cb cs W P D hm hi4 h
    have e := law_end (N := N) (i := i) hN2 hi4
    have e1 : (nI N - 6 < nI i) = True := by rw [e]; exact eq_true (by omega)
    simp only [zr0_18, zr0_19, zr0_20, zr0_21, zr0_23, zr0_24, zr0_1230, zr0_1231, zs_1000 N, true_and, e1, true_implies, not_true_eq_false, false_implies, and_true, or_true]
    exact ⟨rfl, zq_SG_le, Nat.le_of_ble_eq_true rfl⟩
  | succ m ih =>
    intro i hi hl ca cb cs W P D hm hi4 h
    have e := law_end (N := N) (i := i) hN2 hi4
    by_cases q : N < i + 6
    · have e1 : (nI N - 6 < nI i) = True := by rw [e]; exact eq_true q
      simp only [zr0_18, zr0_19, zr0_20, zr0_21, zr0_23, zr0_24, zr0_1230, zr0_1231, zs_1000 N, true_and, e1, true_implies, not_true_eq_false, false_implies, and_true, or_true]
      exact ⟨rfl, zq_SG_le, Nat.le_of_ble_eq_true rfl⟩
    · have e1 : (nI N - 6 < nI i) = False := by rw [e]; exact eq_false q
      obtain ⟨hi2, hl2, ca2, cb2, cs2, W2, P2, D2, a1, a2, a3⟩ := law_round h (show i + 6 ≤ N by omega) hN2
      simp only [zr0_18, zr0_19, zr0_20, zr0_21, zr0_23, zr0_24, zs_1000 N, true_and, e1, false_implies, not_false_eq_true, true_implies, a3]
      simp only [zr0_1224, zr0_1227, zb_p6, zq_kill_ref]
      exact ih (i + 6) hi2 hl2 ca2 cb2 cs2 W2 P2 D2 (by omega) (by omega) a2
end Z72
/-! At the start -/
def law_hi (xs : Nat → Int32) : zq_I := fun a => if a = 1000 then xs else zq_gD.2.1 a
theorem law_hi_o {xs : Nat → Int32} {a k : Nat} {v : Int32} (ha : a ≠ 1000) (h : (a, k, v) ∈ zq_ints) : law_hi xs a k = v := by
  unfold law_hi
  rw [if_neg ha]
  have h0 := zq_gD_hi (a, k, v) h
  dsimp only at h0
  exact h0
theorem law_HR : zq_HR 36 45 36 = zq_gD.2.2.2 := by
  have u : ∀ (h : zq_O) (a k v : Nat), h a k = some v → zq_u h a k (some v) = h := fun h a k v e => by
    funext b l
    unfold zq_u
    by_cases q : b = a ∧ l = k
    · rw [if_pos q, q.1, q.2, e]
    · rw [if_neg q]
  have a1 := zq_gD_hr (0, 6, 36) (by decide)
  dsimp only at a1
  have a2 := zq_gD_hr (0, 7, 45) (by decide)
  dsimp only at a2
  have a3 := zq_gD_hr (54, 3, 36) (by decide)
  dsimp only at a3
  unfold zq_HR
  rw [u _ _ _ _ a1, u _ _ _ _ a2, u _ _ _ _ a3]
theorem law_ov {N : Nat} {xs : Nat → Int32} : zq_ov N xs zq_gD = (zq_SG N, law_hi xs, zq_gD.2.2.1, zq_HR 36 45 36) := by
  rw [law_HR]
  unfold zq_ov zq_SG law_hi
  rw [zq_gD_n.1, zq_gD_n.2]
theorem law_Sim {xs : Nat → Int32} : Sim (law_hi xs) zq_gD.2.2.1 36 45 36 0 0 0 := by
  have g : ∀ {a k : Nat} {v : Int32}, a ≠ 1000 → (a, k, v) ∈ zq_ints → law_hi xs a k = v := fun ha h => law_hi_o ha h
  refine ⟨Or.inl ⟨rfl, rfl⟩, Or.inl rfl, ⟨?_, ?_, ?_, ?_, ?_⟩, ?_, ?_, ⟨⟨by omega, by omega, ?_, ?_, ?_, ?_, ?_, 0, by omega, ?_⟩, fun k hk => absurd hk (Nat.not_lt_zero _), fun w hw => absurd hw (Nat.not_lt_zero _)⟩, ⟨by omega, fun _ => rfl, ?_, ?_, ?_, ?_⟩, fun i hi => absurd hi (Nat.not_lt_zero _), ⟨?_, ?_, ?_, fun w hw => absurd hw (Nat.not_lt_zero _)⟩, ⟨?_, ?_, fun w hw => absurd hw (Nat.not_lt_zero _)⟩, fun i hi => absurd hi (Nat.not_lt_zero _), ?_⟩
  · rw [g (a := 0) (k := 9) (v := 0) (by decide) (by decide), g (a := 60) (k := 2) (v := 0) (by decide) (by decide)]
  · rw [zq_gD_hl.1, zq_gD_hl.2.2.1]
  · rw [zq_gD_hl.2.1, zq_gD_hl.2.2.2]
  · rw [g (a := 0) (k := 12) (v := 0) (by decide) (by decide), g (a := 60) (k := 0) (v := 0) (by decide) (by decide)]
  · intro f hf
    match f, hf with
    | 0, _ => rw [g (a := 35) (k := 0) (v := 0) (by decide) (by decide), g (a := 61) (k := 0) (v := 0) (by decide) (by decide)]
    | 1, _ => rw [g (a := 35) (k := 1) (v := 0) (by decide) (by decide), g (a := 61) (k := 1) (v := 0) (by decide) (by decide)]
    | 2, _ => rw [g (a := 35) (k := 2) (v := 0) (by decide) (by decide), g (a := 61) (k := 2) (v := 0) (by decide) (by decide)]
    | 3, _ => rw [g (a := 35) (k := 3) (v := 0) (by decide) (by decide), g (a := 61) (k := 3) (v := 0) (by decide) (by decide)]
    | 4, _ => rw [g (a := 35) (k := 4) (v := 0) (by decide) (by decide), g (a := 61) (k := 4) (v := 0) (by decide) (by decide)]
    | 5, _ => rw [g (a := 35) (k := 5) (v := 0) (by decide) (by decide), g (a := 61) (k := 5) (v := 0) (by decide) (by decide)]
  · intro r hr
    refine Or.inl ?_
    match r, hr with
    | 0, _ => exact ⟨g (by decide) (by decide), g (by decide) (by decide)⟩
    | 1, _ => exact ⟨g (by decide) (by decide), g (by decide) (by decide)⟩
    | 2, _ => exact ⟨g (by decide) (by decide), g (by decide) (by decide)⟩
    | 3, _ => exact ⟨g (by decide) (by decide), g (by decide) (by decide)⟩
    | 4, _ => exact ⟨g (by decide) (by decide), g (by decide) (by decide)⟩
    | 5, _ => exact ⟨g (by decide) (by decide), g (by decide) (by decide)⟩
  · intro r hr
    refine Or.inl ?_
    match r, hr with
    | 0, _ => exact ⟨g (by decide) (by decide), g (by decide) (by decide)⟩
    | 1, _ => exact ⟨g (by decide) (by decide), g (by decide) (by decide)⟩
    | 2, _ => exact ⟨g (by decide) (by decide), g (by decide) (by decide)⟩
    | 3, _ => exact ⟨g (by decide) (by decide), g (by decide) (by decide)⟩
  · exact g (v := nI 0) (by decide) (by decide)
  · exact g (v := nI 0) (by decide) (by decide)
  · exact g (v := nI 0) (by decide) (by decide)
  · exact g (v := nI 0) (by decide) (by decide)
  · rw [g (a := 36) (k := 8) (v := 0) (by decide) (by decide), g (a := 60) (k := 11) (v := 0) (by decide) (by decide)]
  · exact g (v := nI 0) (by decide) (by decide)
  · exact g (v := nI 0) (by decide) (by decide)
  · exact g (v := nI 0) (by decide) (by decide)
  · exact g (v := nI 0) (by decide) (by decide)
  · exact g (v := nI 0) (by decide) (by decide)
  · exact g (v := 0) (by decide) (by decide)
  · exact g (v := 0) (by decide) (by decide)
  · exact g (v := -1) (by decide) (by decide)
  · exact g (v := 0) (by decide) (by decide)
  · exact g (v := 0) (by decide) (by decide)
  · intro k hk
    refine Or.inl ?_
    match k, hk with
    | 0, _ => exact ⟨g (by decide) (by decide), g (by decide) (by decide)⟩
    | 1, _ => exact ⟨g (by decide) (by decide), g (by decide) (by decide)⟩
    | 2, _ => exact ⟨g (by decide) (by decide), g (by decide) (by decide)⟩
theorem zq_ov_11 {N : Nat} {xs : Nat → Int32} {g : zq_G} : (zq_ov N xs g).1.1 = g.1.1 := rfl
theorem law_g0 {N : Nat} {xs : Nat → Int32} : zq_g0 N xs = zq_ov N xs zq_e0 := by
  unfold zq_g0 zq_ov zq_e0
  refine Prod.ext rfl (Prod.ext ?_ rfl)
  funext a k
  by_cases q : a = 1000
  · simp [q]
  · simp [q]
theorem law_start {N : Nat} {xs : Nat → Int32} {Q : Option Value → zq_G → Prop} (h : zq_P 59 0 18 [.ref 1000, .ref 0, .ref 60, .int 0] [] (zq_SG N, law_hi xs, zq_gD.2.2.1, zq_HR 36 45 36) Q) : zq_P 59 0 0 [.ref 1000, .retAddr 0, .retAddr 0, .retAddr 0] [] (zq_g0 N xs) Q := by
  have q7 : zq_lq (zq_own 0) 7 = some (7, 7, 4, 73) := by decide +kernel
  have q10 : zq_lq (zq_own 0) 10 = some (7, 10, 5, 703) := by decide +kernel
  have m9 : zq_mq (zq_own 0) 9 = some (7, 9, 0, 1, 0, 75) := by decide +kernel
  have m12 : zq_mq (zq_own 0) 12 = some (7, 12, 0, 109, 0, 705) := by decide +kernel
  have og0 : zq_og zq_e0 := ⟨Nat.zero_le _, rfl⟩
  have c1 : zq_ev 8 400 1 [.ref 0] (zq_nc zq_e0 (6, 0) 13) = some (none, zq_gB) := zq_of_ok zq_c1_ok
  have c2 : zq_ev 8 400 109 [.ref 60] (zq_nc zq_gB (7, 0) 46) = some (none, zq_gD) := zq_of_ok zq_c2_ok
  obtain ⟨v1, og1⟩ := zq_ev_ov (N := N) (xs := xs) 8 400 1 _ _ _ _ (zq_og_nc (sh := (6, 0)) (n := 13) og0 (show 0 < 1000 by omega)) c1
  have hB : zq_gB.1.1 < 1000 := by rw [zq_gB_n]; decide
  obtain ⟨v2, -⟩ := zq_ev_ov (N := N) (xs := xs) 8 400 109 _ _ _ _ (zq_og_nc (sh := (7, 0)) (n := 46) og1 hB) c2
  rw [zq_ov_nc (show zq_e0.1.1 < 1000 from Nat.le_of_ble_eq_true rfl), ← law_g0] at v1
  rw [zq_ov_nc hB, law_ov] at v2
  have n60 : (zq_ov N xs zq_gB).1.1 = 60 := by rw [zq_ov_11]; exact zq_gB_n
  generalize hG : zq_ov N xs zq_gB = GB at v1 v2 n60
  have e1 : zq_ent 1 [.ref 0] = [.ref 0] := by unfold zq_ent; rw [zm1]; rfl
  have ml1 : (zq_fl2 [.ref 0]).length ≤ zq_ml 1 := by rw [zm1]; decide
  have ml2 : (zq_fl2 [.ref 60]).length ≤ zq_ml 109 := by rw [zm109]; decide
  -- the class
  have n1 : zq_op 0 (.new 7) [.ref 1000, .retAddr 0, .retAddr 0, .retAddr 0] [] (zq_g0 N xs) = some ([.ref 1000, .retAddr 0, .retAddr 0, .retAddr 0], [.ref 0], zq_nc (zq_g0 N xs) (6, 0) 13) := by
    simp only [zq_op, zq_newo, q7]
    exact if_pos (show 0 < 1000 by omega)
  rw [zq_P_op (i := .new 7) (len := 3) (by decide +kernel) n1]
  rw [zq_P_op (i := .dup) (len := 1) (by decide +kernel) (show zq_op 0 .dup _ [.ref 0] _ = some (_, [.ref 0, .ref 0], _) from rfl)]
  have i1 : ∀ g : zq_G, zq_inv 0 (.invokespecial 9) [.ref 0, .ref 0] g = some (1, [.ref 0], [.ref 0]) := fun g => by
    unfold zq_inv
    dsimp only
    rw [m9]
    dsimp only
    rw [zi1.2.1, zi1.2.2]
    rfl
  have s1 : ∀ (L : List Value) (g : zq_G), zq_op 0 (.invokespecial 9) L [.ref 0, .ref 0] g = none := fun L g => by
    simp [zq_op, zq_spe, m9]
  rw [zq_P_inv (d := 58) (i := .invokespecial 9) (len := 3) (by decide +kernel) (s1 _ _) rfl rfl (i1 _) ml1]
  refine zq_P_of_ev v1 (by omega) ?_
  show zq_P 59 0 7 [.ref 1000, .retAddr 0, .retAddr 0, .retAddr 0] [.ref 0] GB Q
  rw [zq_P_op (i := .astore_n 1) (len := 1) (by decide +kernel) (show zq_op 0 (.astore_n 1) [.ref 1000, .retAddr 0, .retAddr 0, .retAddr 0] [.ref 0] GB = some ([.ref 1000, .ref 0, .retAddr 0, .retAddr 0], [], GB) from rfl)]
  -- the reference
  have n2 : zq_op 0 (.new 10) [.ref 1000, .ref 0, .retAddr 0, .retAddr 0] [] GB = some ([.ref 1000, .ref 0, .retAddr 0, .retAddr 0], [.ref 60], zq_nc GB (7, 0) 46) := by
    simp only [zq_op, zq_newo, q10]
    refine (if_pos (show GB.1.1 < 1000 by rw [n60]; decide)).trans ?_
    rw [n60]
    rfl
  rw [zq_P_op (i := .new 10) (len := 3) (by decide +kernel) n2]
  rw [zq_P_op (i := .dup) (len := 1) (by decide +kernel) (show zq_op 0 .dup _ [.ref 60] _ = some (_, [.ref 60, .ref 60], _) from rfl)]
  have i2 : ∀ g : zq_G, zq_inv 0 (.invokespecial 12) [.ref 60, .ref 60] g = some (109, [.ref 60], [.ref 60]) := fun g => by
    unfold zq_inv
    dsimp only
    rw [m12]
    dsimp only
    rw [zi109.2.1, zi109.2.2]
    rfl
  have s2 : ∀ (L : List Value) (g : zq_G), zq_op 0 (.invokespecial 12) L [.ref 60, .ref 60] g = none := fun L g => by
    simp [zq_op, zq_spe, m12]
  rw [zq_P_inv (d := 58) (i := .invokespecial 12) (len := 3) (by decide +kernel) (s2 _ _) rfl rfl (i2 _) ml2]
  refine zq_P_of_ev v2 (by omega) ?_
  show zq_P 59 0 15 [.ref 1000, .ref 0, .retAddr 0, .retAddr 0] [.ref 60] (zq_SG N, law_hi xs, zq_gD.2.2.1, zq_HR 36 45 36) Q
  rw [zq_P_op (i := .astore_n 2) (len := 1) (by decide +kernel) (show zq_op 0 (.astore_n 2) [.ref 1000, .ref 0, .retAddr 0, .retAddr 0] [.ref 60] _ = some ([.ref 1000, .ref 0, .ref 60, .retAddr 0], [], _) from rfl)]
  show zq_P 59 0 16 _ _ _ _
  simp only [zr0_16, zr0_17, zq_kill_ref]
  exact h
theorem zq_goal_yes : zq_goal := by
  intro L xs hL
  have e0 : zq_ent 0 [.ref 1000] = [.ref 1000, .retAddr 0, .retAddr 0, .retAddr 0] := by decide +kernel
  have ml : (zq_fl2 [.ref 1000]).length ≤ zq_ml 0 := by decide +kernel
  have k := law_start (N := L) (xs := xs) (law_loop (N := L) hL (xs := xs) L 0 _ _ _ _ _ _ _ _ (by omega) (by omega) law_Sim)
  rw [← e0] at k
  obtain ⟨F, v, g2, a1, a2, a3, a4⟩ := zq_P_ev ml k
  rw [a2] at a1
  exact ⟨F, g2, a1, a3, a4⟩
