/-! lots -/
/-- the first way from one on, in turn -/
def ffs (p : Nat → Bool) (W s : Nat) : Nat → Option Nat
  | 0 => none
  | m + 1 => if p ((s + (W - (m + 1))) % W) = true then some ((s + (W - (m + 1))) % W) else ffs p W s m
theorem ffs_s {p : Nat → Bool} {W s m : Nat} : ffs p W s (m + 1) = if p ((s + (W - (m + 1))) % W) = true then some ((s + (W - (m + 1))) % W) else ffs p W s m := rfl
theorem ffs_lt {p : Nat → Bool} {W s m w : Nat} (h : ffs p W s m = some w) : 0 < W → w < W := by
  intro hW
  induction m with
  | zero => cases h
  | succ m ih =>
    unfold ffs at h
    split at h
    · cases h; exact Nat.mod_lt _ hW
    · exact ih h
theorem ffs_cong {p q : Nat → Bool} {W s : Nat} (hW : 0 < W) (h : ∀ w, w < W → p w = q w) : ∀ m, ffs p W s m = ffs q W s m := by
  intro m
  induction m with
  | zero => rfl
  | succ m ih => unfold ffs; rw [h _ (Nat.mod_lt _ hW), ih]
section Z39
variable {N ca cb cs d W P D n : Nat} {hi J K C : zq_I} {hl : zq_J} {Q : Option Value → zq_G → Prop} {x z : Int32}
theorem zq_u_jl {a k : Nat} {v : Int32} (h : a < 60) : zq_u (jn J K) a k v = jn (zq_u J a k v) K := by
  funext b j
  unfold jn zq_u
  by_cases e : b < 60
  · simp [e]
  · have : ¬ (b = a ∧ j = k) := by omega
    simp [e, this]
theorem zq_u_jh {a k : Nat} {v : Int32} (h : 60 ≤ a) : zq_u (jn K J) a k v = jn K (zq_u J a k v) := by
  funext b j
  unfold jn zq_u
  by_cases e : b < 60
  · have : ¬ (b = a ∧ j = k) := by omega
    simp [e, this]
  · simp [e]
theorem zq_w_jh {a : Nat} {f : Nat → Int32} (h : 60 ≤ a) : zq_w (jn K J) a f = jn K (zq_w J a f) := by
  funext b
  unfold jn zq_w
  by_cases e : b < 60
  · have : ¬ b = a := by omega
    simp [e, this]
  · simp [e]
theorem cst_jn {x : Option Nat} (hca : ca = 36 ∨ ca = 45) : cst (jn J K) ca D x = jn (cst J ca D x) K := by
  have e6 : ∀ F : zq_I, jn F K (ca + 6) = F (ca + 6) := fun F => jn_lo (by omega)
  have e32 : ∀ F : zq_I, jn F K 32 = F 32 := fun F => jn_lo (by omega)
  have e34 : ∀ F : zq_I, jn F K (32 + 2) = F (32 + 2) := fun F => jn_lo (by omega)
  cases x with
  | none => simp only [cst, zc_re, zq_u_jl (show 30 < 60 by omega), zq_u_jl (show 31 < 60 by omega), zq_u_jl (show 32 < 60 by omega), e32]
  | some w => simp only [cst, zc_go, zq_u_jl (show 30 < 60 by omega), zq_u_jl (show 31 < 60 by omega), zq_u_jl (show 32 < 60 by omega), zq_u_jl (show 32 + 1 < 60 by omega), zq_u_jl (show 32 + 2 < 60 by omega), e32, e34, e6]
theorem mst_jn {x : Option Nat} : mst (jn K J) D x = jn K (mst J D x) := by
  have e60 : ∀ F : zq_I, jn K F 60 = F 60 := fun F => jn_hi (by omega)
  have e75 : ∀ F : zq_I, jn K F 75 = F 75 := fun F => jn_hi (by omega)
  have et : ∀ F : zq_I, zm_tr (jn K F) = zm_tr F := fun F => zm_tr_fr (jn_hi (by omega)) (jn_hi (by omega))
  have ew : zm_wk (jn K J) 76 (17 * D) 7 = zm_wk J 76 (17 * D) 7 := by
    funext j
    unfold zm_wk zm_sn
    rw [jn_hi (by omega), jn_hi (by omega), jn_hi (by omega), jn_hi (by omega)]
  cases x with
  | none => simp only [mst, zm_re, mno, zm_wr, zq_u_jh (show 60 ≤ 60 by omega), zq_w_jh (show 60 ≤ 76 by omega), e60, ew]
  | some w => simp only [mst, zm_go, mno, zm_wr, zq_u_jh (show 60 ≤ 60 by omega), zq_u_jh (show 60 ≤ 74 by omega), zq_u_jh (show 60 ≤ 75 by omega), zq_w_jh (show 60 ≤ 76 by omega), e60, e75, et, ew]
theorem jn_lo_mst {x : Option Nat} : jn (mst J D x) K = jn J K := by
  funext a
  by_cases e : a < 60
  · rw [jn_lo e, jn_lo e, mst_o (by omega)]
  · rw [jn_hi (by omega), jn_hi (by omega)]
theorem jn_hi_cst {x : Option Nat} : jn K (cst J ca D x) = jn K J := by
  funext a
  by_cases e : a < 60
  · rw [jn_lo e, jn_lo e]
  · rw [jn_hi (by omega), jn_hi (by omega), cst_o (by omega)]
/-- class side: what lies below 60 decides -/
theorem zc_away_fr {c : Nat} {day : Int32} (hc : c + 8 < 60) (e : ∀ a, a < 60 → C a = J a) : zc_away C c day = zc_away J c day := by
  funext k
  unfold zc_away
  rw [e (c + 1) (by omega), e (c + 2) (by omega)]
theorem zc_open_fr {c o : Nat} {g : Int32} (hc : c + 8 < 60) (ho : o + 2 < 60) (e : ∀ a, a < 60 → C a = J a) : zc_open C c o g = zc_open J c o g := by
  funext w
  unfold zc_open zc_ripe zc_has
  rw [e (c + 7) (by omega), e (c + 8) (by omega), e (c + 3) (by omega), e (o + 1) (by omega), e o (by omega), e c (by omega)]
/-- the ways open now, by what the reference can do -/
def cano (hi : zq_I) (W P : Nat) : Nat → Bool := zm_can hi W (zb_set (zm_away hi (hi 60 25)) P)
theorem k_EF_openNow2 (h : Sim J hl ca cb cs W P D) (e : ∀ a, a < 60 → C a = J a) {hl2 : zq_J} : zq_P (d + 4) 43 0 [.ref 0] [] (zq_SG N, C, hl2, zq_HR ca cb cs) Q = Q (some (.int (zb_set (cano J W P) W))) (zq_SG N, C, hl2, zq_HR ca cb cs) := by
  have hcc := h.court
  have hc := zq_Ct_ok (N := N) (ca := ca) (cb := cb) (cs := cs) h.court
  have ho := zq_Co_ok (N := N) (ca := ca) (cb := cb) (cs := cs) (o := 32) (Or.inl rfl)
  have hct := h.2.2.2.2.2.1
  have hco := sm_dd_co hct.1.1 h.2.2.2.2.2.2
  obtain ⟨⟨w1, w2, w3, w4, w5, w6, -⟩, -⟩ := id hct
  have hd : J 32 2 = J 60 25 := by rw [hco.1.2.1, hco.1.2.2]
  have hc2 := hc
  unfold zq_Ct at hc2
  have c3 : C ca 10 = nI W := by rw [e _ (by omega)]; exact w3
  have c5 : C ca 9 = nI P := by rw [e _ (by omega)]; exact w5
  have e32 : C 32 = J 32 := e 32 (by omega)
  unfold cano
  rw [← sm_opens hct hco, ← sm_aw hct, ← hd]
  simp only [zr43_0, zr43_1, zr43_4, zr43_5, zr43_8, zr43_9, zr43_12, zr43_13, zr43_16, zr43_19, zr43_22, zr43_25, zs_x0 N, zh_x0 ca cb cs, hc2, zq_kill_int, zq_kill_ref, zq_kill_ret, zq_kill_null, zq_kill_long, zq_rf_some, zq_rf_none, true_and, and_true, true_implies, not_true_eq_false, not_false_eq_true, false_implies, Bool.true_eq_false, Bool.false_eq_true, nI_1, zb_i0, zb_i1, zb_i2, Option.toList_some, Option.toList_none, List.cons_append, List.nil_append, true_or, or_true, implies_true, k_Court_awayOn hc c5 w2, k_Course_openWays hc ho c3 w1, zc_away_fr (c := ca) (by omega) e, zc_open_fr (c := ca) (o := 32) (by omega) (by omega) e, e32]
theorem k_EF_firstFrom (h : Sim J hl ca cb cs W P D) (hW0 : 0 < W) (e : ∀ a, a < 60 → C a = J a) {hl2 : zq_J} {s : Nat} (hs : s ≤ 1000) : zq_P (d + 5) 98 0 [.ref 0, .int (nI s), .retAddr 0, .retAddr 0, .retAddr 0] [] (zq_SG N, C, hl2, zq_HR ca cb cs) Q = Q (some (.int (ddi (ffs (cano J W P) W s W)))) (zq_SG N, C, hl2, zq_HR ca cb cs) := by
  have hcc := h.court
  have hc := zq_Ct_ok (N := N) (ca := ca) (cb := cb) (cs := cs) h.court
  have w1 := h.2.2.2.2.2.1.1.1
  have w3 := h.2.2.2.2.2.1.1.2.2.1
  have c3 : C ca 10 = nI W := by rw [e _ (by omega)]; exact w3
  have e0 : (nI W = 0) = False := eq_false (nI_ne0 (by omega) (by omega))
  have loop : ∀ m, m ≤ W → ∀ v : Value, zq_P (d + 5) 98 7 [.ref 0, .int (nI s), .int (zb_set (cano J W P) W), .int (nI (W - m)), v] [] (zq_SG N, C, hl2, zq_HR ca cb cs) Q = Q (some (.int (ddi (ffs (cano J W P) W s m)))) (zq_SG N, C, hl2, zq_HR ca cb cs) := by
    intro m
    induction m with
    | zero =>
      intro _ v
      have h3 : (nI (W - 0) < nI W) = False := eq_false (nI_nlt (by omega) (by omega))
      rw [zr98_7]
      simp only [zr98_0, zr98_1, zr98_4, zr98_5, zr98_6, zr98_8, zr98_9, zr98_12, zr98_15, zr98_18, zr98_19, zr98_20, zr98_21, zr98_22, zr98_25, zr98_28, zr98_29, zr98_31, zr98_32, zr98_34, zr98_35, zr98_36, zr98_37, zr98_40, zr98_42, zr98_43, zr98_46, zr98_49, zr98_50, zs_x0 N, zh_x0 ca cb cs, hc.1, zq_kill_int, zq_kill_ref, zq_kill_ret, zq_kill_null, zq_kill_long, zq_rf_some, zq_rf_none, true_and, and_true, true_implies, not_true_eq_false, not_false_eq_true, false_implies, Bool.true_eq_false, Bool.false_eq_true, nI_1, zb_i0, zb_i1, zb_i2, Option.toList_some, Option.toList_none, List.cons_append, List.nil_append, true_or, or_true, implies_true, zb_it, zb_if, zb_10, zb_00, zb_n5, zb_n2, zb_m1, zb_m3, zb_m9, or_true, true_or, or_false, false_or, c3, h3, ffs, ddi]
    | succ m ih =>
      intro hm v
      have h3 : (nI (W - (m + 1)) < nI W) = True := eq_true ((nI_ltI (by omega) (by omega)).mpr (by omega))
      have h4 : nI (W - (m + 1)) + 1 = nI (W - m) := by rw [nI_1]; congr 1; omega
      have h5 : nI s + nI (W - (m + 1)) - (nI s + nI (W - (m + 1))) / nI W * nI W = nI ((s + (W - (m + 1))) % W) := by rw [nI_add, pk_rem (by omega) hW0 (by omega)]
      have hlt : (s + (W - (m + 1))) % W < W := Nat.mod_lt _ hW0
      rw [zr98_7]
      simp only [zr98_0, zr98_1, zr98_4, zr98_5, zr98_6, zr98_8, zr98_9, zr98_12, zr98_15, zr98_18, zr98_19, zr98_20, zr98_21, zr98_22, zr98_25, zr98_28, zr98_29, zr98_31, zr98_32, zr98_34, zr98_35, zr98_36, zr98_37, zr98_40, zr98_42, zr98_43, zr98_46, zr98_49, zr98_50, zs_x0 N, zh_x0 ca cb cs, hc.1, zq_kill_int, zq_kill_ref, zq_kill_ret, zq_rf_some, true_and, and_true, true_implies, not_true_eq_false, not_false_eq_true, false_implies, c3, h3, h4, h5, e0, zb_bit w1 hlt, zb_i0, ih (by omega)]
      rw [ffs_s]
      cases hb : cano J W P ((s + (W - (m + 1))) % W)
      · simp
      · simp [ddi]
  simp only [zr98_0, zr98_1, zr98_4, zr98_5, zr98_6, zr98_8, zr98_9, zr98_12, zr98_15, zr98_18, zr98_19, zr98_20, zr98_21, zr98_22, zr98_25, zr98_28, zr98_29, zr98_31, zr98_32, zr98_34, zr98_35, zr98_36, zr98_37, zr98_40, zr98_42, zr98_43, zr98_46, zr98_49, zr98_50, zs_x0 N, zh_x0 ca cb cs, hc.1, zq_kill_int, zq_kill_ref, zq_kill_ret, zq_kill_null, zq_kill_long, zq_rf_some, zq_rf_none, true_and, and_true, true_implies, not_true_eq_false, not_false_eq_true, false_implies, Bool.true_eq_false, Bool.false_eq_true, nI_1, zb_i0, zb_i1, zb_i2, Option.toList_some, Option.toList_none, List.cons_append, List.nil_append, true_or, or_true, implies_true, zb_it, zb_if, zb_10, zb_00, zb_n5, zb_n2, zb_m1, zb_m3, zb_m9, or_true, true_or, or_false, false_or, k_EF_openNow2 h e]
  have := loop W (Nat.le_refl _)
  rw [Nat.sub_self] at this
  exact this _
def lk (s : Nat) : Nat → Nat
  | 0 => s
  | k + 1 => (48271 * lk s k) % 2147483647
theorem lk_lt {s : Nat} (hs : s < 2147483648) : ∀ k, lk s k < 2147483648
  | 0 => hs
  | k + 1 => by unfold lk; omega
theorem lk_c {s k : Nat} (hs : s < 2147483648) : lN (lk s k) * 48271 - lN (lk s k) * 48271 / 2147483647 * 2147483647 = lN (lk s (k + 1)) := by
  have := lk_lt hs k
  rw [show (48271 : Int64) = lN 48271 from rfl, show (2147483647 : Int64) = lN 2147483647 from rfl, lN_mul, pk_lRem (by omega) (by omega) (by omega), Nat.mul_comm]
  rfl
theorem lk_m {s k : Nat} (hs : s < 2147483648) : 48271 * lN (lk s k) - 48271 * lN (lk s k) / 2147483647 * 2147483647 = lN (lk s (k + 1)) := by
  have := lk_lt hs k
  rw [show (48271 : Int64) = lN 48271 from rfl, show (2147483647 : Int64) = lN 2147483647 from rfl, lN_mul, pk_lRem (by omega) (by omega) (by omega)]
  rfl
theorem lk_w {a : Nat} (ha : a < 2147483648) (hW0 : 0 < W) (hW : W ≤ 7) : (lN a / 8 - lN a / 8 / (nI W).toInt64 * (nI W).toInt64).toInt32 = nI (a / 8 % W) := by
  rw [show (8 : Int64) = lN 8 from rfl, pk_lDiv (by omega) (by omega) (by omega), nI_l (by omega), pk_lRem (by omega) hW0 (by omega), lN_i]
/-- what is done at each lot -/
def lx (J : zq_I) (W P f : Nat) : Option Nat := ffs (cano J W P) W f W
def lJ (hi : zq_I) (ca W P D s : Nat) : Nat → zq_I
  | 0 => hi
  | k + 1 => mst (cst (lJ hi ca W P D s k) ca (D + k) (lx (lJ hi ca W P D s k) W P (lk s (k + 1) / 8 % W))) (D + k) (lx (lJ hi ca W P D s k) W P (lk s (k + 1) / 8 % W))
theorem lJ_sim {s : Nat} (h : Sim hi hl ca cb cs W P D) (hW0 : 0 < W) : ∀ k, D + k ≤ 40 → Sim (lJ hi ca W P D s k) hl ca cb cs W P (D + k)
  | 0, _ => h
  | k + 1, hk => by
    have := lJ_sim (s := s) h hW0 k (by omega)
    exact this.step hW0 (by omega) (fun w hw => ffs_lt hw hW0)
theorem lJ_s {s k : Nat} : lJ hi ca W P D s (k + 1) = mst (cst (lJ hi ca W P D s k) ca (D + k) (lx (lJ hi ca W P D s k) W P (lk s (k + 1) / 8 % W))) (D + k) (lx (lJ hi ca W P D s k) W P (lk s (k + 1) / 8 % W)) := rfl
theorem cano_fr (e : ∀ a, 60 ≤ a → C a = J a) : cano C = cano J := by
  funext W P
  unfold cano
  rw [zm_can_fr e, zm_away_fr e, e 60 (by omega)]
/-- a round of the reference: the first way that can be done, or he reigns -/
theorem k_M_lots_in (h : Sim J hl ca cb cs W P D) (hW0 : 0 < W) (hD : D < 40) {f : Nat} (hf : f ≤ 1000) {v1 v2 v4 : Int32} {v3 : Int64} {k : Nat} (e : ∀ a, 60 ≤ a → C a = J a) {hl2 : zq_J} {R : Prop} : ∀ m, m ≤ W →
    (∀ st, zq_P (d + 4) 196 158 [.ref 60, .int v1, .int v2, .long v3, .retAddr 0, .int v4, .int (nI k), .int (nI f), .int (nI st)] [] (zq_SG N, mst C D (ffs (cano J W P) W f m), hl2, zq_HR ca cb cs) Q = R) →
    zq_P (d + 4) 196 92 [.ref 60, .int v1, .int v2, .long v3, .retAddr 0, .int v4, .int (nI k), .int (nI f), .int (nI (W - m))] [] (zq_SG N, C, hl2, zq_HR ca cb cs) Q = R := by
  have hct := h.2.2.2.2.2.1
  obtain ⟨⟨w1, w2, w3, w4, w5, w6, -⟩, -⟩ := id hct
  have d3 := h.2.2.2.2.2.2.1.2.2.2.1
  have c4 : C 60 10 = nI W := by rw [e _ (by omega)]; exact w4
  have c6 : C 60 12 = nI P := by rw [e _ (by omega)]; exact w6
  have c30 : C 60 30 = nI D := by rw [e _ (by omega)]; exact d3
  have cz : ∀ k, k < P → ¬ C 67 k = 0 := fun k hk => by rw [e _ (by omega)]; exact sm_nz hct k hk
  have e0 : (nI W = 0) = False := eq_false (nI_ne0 (by omega) (by omega))
  have m10 : mno C D 60 10 = nI W := by unfold mno zm_wr; rw [zq_u_kn (by omega), zq_w_ne (by omega)]; exact c4
  intro m
  induction m with
  | zero =>
    intro _ hR
    have h3 : (nI (W - 0) < nI W) = False := eq_false (nI_nlt (by omega) (by omega))
    rw [← hR (W - 0), zr196_92]
    simp only [zr196_0, zr196_1, zr196_2, zr196_4, zr196_7, zr196_10, zr196_11, zr196_12, zr196_15, zr196_18, zr196_21, zr196_22, zr196_23, zr196_24, zr196_27, zr196_30, zr196_32, zr196_33, zr196_34, zr196_37, zr196_38, zr196_39, zr196_41, zr196_44, zr196_46, zr196_47, zr196_48, zr196_49, zr196_50, zr196_51, zr196_54, zr196_56, zr196_57, zr196_61, zr196_62, zr196_65, zr196_68, zr196_69, zr196_70, zr196_73, zr196_74, zr196_75, zr196_76, zr196_79, zr196_80, zr196_81, zr196_84, zr196_85, zr196_86, zr196_87, zr196_89, zr196_90, zr196_94, zr196_95, zr196_98, zr196_101, zr196_102, zr196_104, zr196_106, zr196_107, zr196_108, zr196_111, zr196_112, zr196_115, zr196_118, zr196_121, zr196_124, zr196_125, zr196_128, zr196_130, zr196_131, zr196_134, zr196_137, zr196_138, zr196_140, zr196_142, zr196_143, zr196_144, zr196_147, zr196_148, zr196_151, zr196_154, zr196_155, zr196_161, zr196_164, zr196_165, zr196_168, zr196_170, zr196_171, zs_m0 N, zs_m1 N, zs_m2 N, zh_m0 ca cb cs, zq_kill_int, zq_kill_ref, zq_kill_ret, zq_kill_null, zq_kill_long, zq_rf_some, zq_rf_none, true_and, and_true, true_implies, not_true_eq_false, not_false_eq_true, false_implies, Bool.true_eq_false, Bool.false_eq_true, nI_1, zb_i0, zb_i1, zb_i2, Option.toList_some, Option.toList_none, List.cons_append, List.nil_append, true_or, or_true, implies_true, zb_it, zb_if, zb_10, zb_00, zb_n5, zb_n2, zb_m1, zb_m3, zb_m9, or_true, true_or, or_false, false_or, c4, h3, k_M_note hD c30, m10, k_M_reigns, ffs, mst]
  | succ m ih =>
    intro hm hR
    have h3 : (nI (W - (m + 1)) < nI W) = True := eq_true ((nI_ltI (by omega) (by omega)).mpr (by omega))
    have h4 : nI (W - (m + 1)) + 1 = nI (W - m) := by rw [nI_1]; congr 1; omega
    have h5 : nI f + nI (W - (m + 1)) - (nI f + nI (W - (m + 1))) / nI W * nI W = nI ((f + (W - (m + 1))) % W) := by rw [nI_add, pk_rem (by omega) hW0 (by omega)]
    have hlt : (f + (W - (m + 1))) % W < W := Nat.mod_lt _ hW0
    have hlt7 : (f + (W - (m + 1))) % W < 7 := by omega
    have hcan : zm_can C W (zb_set (zm_away C (C 60 25)) P) ((f + (W - (m + 1))) % W) = cano J W P ((f + (W - (m + 1))) % W) := by
      rw [← cano_fr e]; rfl
    rw [ffs_s] at hR
    rw [zr196_92]
    cases hb : cano J W P ((f + (W - (m + 1))) % W) with
    | false =>
      rw [hb] at hR
      simp only [zr196_0, zr196_1, zr196_2, zr196_4, zr196_7, zr196_10, zr196_11, zr196_12, zr196_15, zr196_18, zr196_21, zr196_22, zr196_23, zr196_24, zr196_27, zr196_30, zr196_32, zr196_33, zr196_34, zr196_37, zr196_38, zr196_39, zr196_41, zr196_44, zr196_46, zr196_47, zr196_48, zr196_49, zr196_50, zr196_51, zr196_54, zr196_56, zr196_57, zr196_61, zr196_62, zr196_65, zr196_68, zr196_69, zr196_70, zr196_73, zr196_74, zr196_75, zr196_76, zr196_79, zr196_80, zr196_81, zr196_84, zr196_85, zr196_86, zr196_87, zr196_89, zr196_90, zr196_94, zr196_95, zr196_98, zr196_101, zr196_102, zr196_104, zr196_106, zr196_107, zr196_108, zr196_111, zr196_112, zr196_115, zr196_118, zr196_121, zr196_124, zr196_125, zr196_128, zr196_130, zr196_131, zr196_134, zr196_137, zr196_138, zr196_140, zr196_142, zr196_143, zr196_144, zr196_147, zr196_148, zr196_151, zr196_154, zr196_155, zr196_161, zr196_164, zr196_165, zr196_168, zr196_170, zr196_171, zs_m0 N, zs_m1 N, zs_m2 N, zh_m0 ca cb cs, zq_kill_int, zq_kill_ref, zq_kill_ret, zq_rf_some, true_and, and_true, true_implies, not_true_eq_false, not_false_eq_true, false_implies, Option.toList_some, List.cons_append, List.nil_append, c4, h3, h4, h5, e0, k_M_canDo c4 w1 hlt7 c6 w2 cz, hcan, hb, zb_i0]
      exact ih (by omega) (by simpa using hR)
    | true =>
      rw [hb, if_pos rfl] at hR
      rw [← hR (W - (m + 1))]
      simp only [zr196_0, zr196_1, zr196_2, zr196_4, zr196_7, zr196_10, zr196_11, zr196_12, zr196_15, zr196_18, zr196_21, zr196_22, zr196_23, zr196_24, zr196_27, zr196_30, zr196_32, zr196_33, zr196_34, zr196_37, zr196_38, zr196_39, zr196_41, zr196_44, zr196_46, zr196_47, zr196_48, zr196_49, zr196_50, zr196_51, zr196_54, zr196_56, zr196_57, zr196_61, zr196_62, zr196_65, zr196_68, zr196_69, zr196_70, zr196_73, zr196_74, zr196_75, zr196_76, zr196_79, zr196_80, zr196_81, zr196_84, zr196_85, zr196_86, zr196_87, zr196_89, zr196_90, zr196_94, zr196_95, zr196_98, zr196_101, zr196_102, zr196_104, zr196_106, zr196_107, zr196_108, zr196_111, zr196_112, zr196_115, zr196_118, zr196_121, zr196_124, zr196_125, zr196_128, zr196_130, zr196_131, zr196_134, zr196_137, zr196_138, zr196_140, zr196_142, zr196_143, zr196_144, zr196_147, zr196_148, zr196_151, zr196_154, zr196_155, zr196_161, zr196_164, zr196_165, zr196_168, zr196_170, zr196_171, zs_m0 N, zs_m1 N, zs_m2 N, zh_m0 ca cb cs, zq_kill_int, zq_kill_ref, zq_kill_ret, zq_kill_null, zq_kill_long, zq_rf_some, zq_rf_none, true_and, and_true, true_implies, not_true_eq_false, not_false_eq_true, false_implies, Bool.true_eq_false, Bool.false_eq_true, nI_1, zb_i0, zb_i1, zb_i2, Option.toList_some, Option.toList_none, List.cons_append, List.nil_append, true_or, or_true, implies_true, zb_it, zb_if, zb_10, zb_00, zb_n5, zb_n2, zb_m1, zb_m3, zb_m9, or_true, true_or, or_false, false_or, c4, h3, h5, e0, k_M_canDo c4 w1 hlt7 c6 w2 cz, hcan, hb, k_M_note hD c30, m10, k_M_play hlt7, mst]
theorem k_EF_lots_loop {s : Nat} {x2 v3 : Int32} (h : Sim hi hl ca cb cs W P D) (hW0 : 0 < W) (hD : D + n ≤ 40) (hs : s < 2147483648) : zq_P (d + 6) 97 70 [.ref 0, .int (nI n), .int x2, .int v3, .long (lN s), .retAddr 0, .int (nI 0)] [] (zq_SG N, hi, hl, zq_HR ca cb cs) Q = Q (some (.int (lJ hi ca W P D s n 32 5 - v3))) (zq_SG N, jn (lJ hi ca W P D s n) hi, hl, zq_HR ca cb cs) := by
  have hcc := h.court
  have hc := zq_Ct_ok (N := N) (ca := ca) (cb := cb) (cs := cs) h.court
  have w1 := h.2.2.2.2.2.1.1.1
  have e0 : (nI W = 0) = False := eq_false (nI_ne0 (by omega) (by omega))
  have eW : ((nI W).toInt64 = 0) = False := eq_false (zl_nz W (by omega) (by omega))
  have eM : ((2147483647 : Int64) = 0) = False := eq_false (by decide)
  have e8 : ((8 : Int64) = 0) = False := eq_false (by decide)
  have loop : zq_P (d + 6) 97 70 [.ref 0, .int (nI n), .int x2, .int v3, .long (lN (lk s 0)), .retAddr 0, .int (nI 0)] [] (zq_SG N, jn (lJ hi ca W P D s 0) hi, hl, zq_HR ca cb cs) Q = zq_P (d + 6) 97 70 [.ref 0, .int (nI n), .int x2, .int v3, .long (lN (lk s n)), .retAddr 0, .int (nI n)] [] (zq_SG N, jn (lJ hi ca W P D s n) hi, hl, zq_HR ca cb cs) Q := by
    refine zq_loop (f := fun k => zq_P (d + 6) 97 70 [.ref 0, .int (nI n), .int x2, .int v3, .long (lN (lk s k)), .retAddr 0, .int (nI k)] [] (zq_SG N, jn (lJ hi ca W P D s k) hi, hl, zq_HR ca cb cs) Q) fun k hk => ?_
    have hJ := lJ_sim (s := s) h hW0 k (by omega)
    have h3 : (nI k < nI n) = True := eq_true ((nI_ltI (by omega) (by omega)).mpr hk)
    have c3 : jn (lJ hi ca W P D s k) hi ca 10 = nI W := by rw [jn_lo (by omega)]; exact hJ.2.2.2.2.2.1.1.2.2.1
    have c30 : jn (lJ hi ca W P D s k) hi 30 1 = nI (D + k) := by rw [jn_lo (by omega)]; exact hJ.2.2.2.2.2.2.1.2.2.1
    have fw : lk s (k + 1) / 8 % W ≤ 1000 := by have := Nat.mod_lt (lk s (k + 1) / 8) hW0; omega
    have ff := fun Q => k_EF_firstFrom (Q := Q) (N := N) (d := d) (C := jn (lJ hi ca W P D s k) hi) (hl2 := hl) hJ hW0 (fun a ha => jn_lo ha) fw
    have dd := fun Q => k_EF_doDeed (Q := Q) (N := N) (cb := cb) (cs := cs) (d := d + 3) (hl := hl) (hi := jn (lJ hi ca W P D s k) hi) (x := lx (lJ hi ca W P D s k) W P (lk s (k + 1) / 8 % W)) (D := D + k) hcc c3 w1 (fun w hw => ffs_lt hw hW0) (by omega) c30
    unfold lx at dd
    rw [cst_jn hcc, ← jn_lo_mst (J := cst (lJ hi ca W P D s k) ca (D + k) (ffs (cano (lJ hi ca W P D s k) W P) W (lk s (k + 1) / 8 % W) W)) (D := D + k) (x := ffs (cano (lJ hi ca W P D s k) W P) W (lk s (k + 1) / 8 % W) W)] at dd
    have dd2 : ∀ Q, zq_P (d + 5) 54 0 [.ref 0, .int (ddi (ffs (cano (lJ hi ca W P D s k) W P) W (lk s (k + 1) / 8 % W) W))] [] _ Q = _ := dd
    show _ = zq_P (d + 6) 97 70 [.ref 0, .int (nI n), .int x2, .int v3, .long (lN (lk s (k + 1))), .retAddr 0, .int (nI (k + 1))] [] (zq_SG N, jn (lJ hi ca W P D s (k + 1)) hi, hl, zq_HR ca cb cs) Q
    rw [lJ_s]
    unfold lx
    rw [zr97_70]
    simp only [zr97_0, zr97_1, zr97_2, zr97_5, zr97_6, zr97_8, zr97_11, zr97_12, zr97_13, zr97_16, zr97_17, zr97_20, zr97_23, zr97_24, zr97_25, zr97_26, zr97_29, zr97_32, zr97_35, zr97_37, zr97_38, zr97_39, zr97_42, zr97_45, zr97_46, zr97_47, zr97_49, zr97_52, zr97_54, zr97_55, zr97_56, zr97_59, zr97_62, zr97_63, zr97_64, zr97_65, zr97_67, zr97_68, zr97_72, zr97_73, zr97_76, zr97_78, zr97_81, zr97_82, zr97_85, zr97_86, zr97_88, zr97_89, zr97_90, zr97_92, zr97_95, zr97_96, zr97_97, zr97_100, zr97_103, zr97_104, zr97_105, zr97_106, zr97_109, zr97_112, zr97_115, zr97_118, zr97_119, zr97_122, zr97_125, zr97_126, zr97_127, zs_x0 N, zh_x0 ca cb cs, hc.1, zq_kill_int, zq_kill_ref, zq_kill_ret, zq_kill_null, zq_kill_long, zq_rf_some, zq_rf_none, true_and, and_true, true_implies, not_true_eq_false, not_false_eq_true, false_implies, Bool.true_eq_false, Bool.false_eq_true, nI_1, zb_i0, zb_i1, zb_i2, Option.toList_some, Option.toList_none, List.cons_append, List.nil_append, true_or, or_true, implies_true, zb_it, zb_if, zb_10, zb_00, zb_n5, zb_n2, zb_m1, zb_m3, zb_m9, or_true, true_or, or_false, false_or, h3, lk_c hs, eM, e8, eW, c3, lk_w (lk_lt hs (k + 1)) hW0 w1, ff, dd2]
  rw [show lJ hi ca W P D s 0 = hi from rfl, jn_self, show lk s 0 = s from rfl] at loop
  have h3 : (nI n < nI n) = False := eq_false (nI_nlt (Nat.le_refl _) (by omega))
  have e32 : jn (lJ hi ca W P D s n) hi 32 = lJ hi ca W P D s n 32 := jn_lo (by omega)
  refine Eq.trans loop ?_
  rw [zr97_70]
  simp only [zr97_0, zr97_1, zr97_2, zr97_5, zr97_6, zr97_8, zr97_11, zr97_12, zr97_13, zr97_16, zr97_17, zr97_20, zr97_23, zr97_24, zr97_25, zr97_26, zr97_29, zr97_32, zr97_35, zr97_37, zr97_38, zr97_39, zr97_42, zr97_45, zr97_46, zr97_47, zr97_49, zr97_52, zr97_54, zr97_55, zr97_56, zr97_59, zr97_62, zr97_63, zr97_64, zr97_65, zr97_67, zr97_68, zr97_72, zr97_73, zr97_76, zr97_78, zr97_81, zr97_82, zr97_85, zr97_86, zr97_88, zr97_89, zr97_90, zr97_92, zr97_95, zr97_96, zr97_97, zr97_100, zr97_103, zr97_104, zr97_105, zr97_106, zr97_109, zr97_112, zr97_115, zr97_118, zr97_119, zr97_122, zr97_125, zr97_126, zr97_127, zs_x0 N, zh_x0 ca cb cs, zq_kill_int, zq_kill_ref, zq_kill_ret, zq_kill_null, zq_kill_long, zq_rf_some, zq_rf_none, true_and, and_true, true_implies, not_true_eq_false, not_false_eq_true, false_implies, Bool.true_eq_false, Bool.false_eq_true, nI_1, zb_i0, zb_i1, zb_i2, Option.toList_some, Option.toList_none, List.cons_append, List.nil_append, true_or, or_true, implies_true, zb_it, zb_if, zb_10, zb_00, zb_n5, zb_n2, zb_m1, zb_m3, zb_m9, or_true, true_or, or_false, false_or, h3, e32]
theorem k_M_lots_loop {s : Nat} {x2 v5 : Int32} (h : Sim hi hl ca cb cs W P D) (hW0 : 0 < W) (hD : D + n ≤ 40) (hs : s < 2147483648) : ∀ m, m ≤ n → ∀ v7 v8, zq_P (d + 5) 196 59 [.ref 60, .int (nI n), .int x2, .long (lN (lk s (n - m))), .retAddr 0, .int v5, .int (nI (n - m)), v7, v8] [] (zq_SG N, jn K (lJ hi ca W P D s (n - m)), hl, zq_HR ca cb cs) Q = Q (some (.int (lJ hi ca W P D s n 60 27 - v5))) (zq_SG N, jn K (lJ hi ca W P D s n), hl, zq_HR ca cb cs) := by
  have w1 := h.2.2.2.2.2.1.1.1
  have e0 : (nI W = 0) = False := eq_false (nI_ne0 (by omega) (by omega))
  have eW : ((nI W).toInt64 = 0) = False := eq_false (zl_nz W (by omega) (by omega))
  have eM : ((2147483647 : Int64) = 0) = False := eq_false (by decide)
  have e8 : ((8 : Int64) = 0) = False := eq_false (by decide)
  intro m
  induction m with
  | zero =>
    intro _ v7 v8
    have h3 : (nI n < nI n) = False := eq_false (nI_nlt (by omega) (by omega))
    have e60 : jn K (lJ hi ca W P D s n) 60 = lJ hi ca W P D s n 60 := jn_hi (by omega)
    rw [zr196_59]
    simp only [Nat.sub_zero]
    simp only [zr196_0, zr196_1, zr196_2, zr196_4, zr196_7, zr196_10, zr196_11, zr196_12, zr196_15, zr196_18, zr196_21, zr196_22, zr196_23, zr196_24, zr196_27, zr196_30, zr196_32, zr196_33, zr196_34, zr196_37, zr196_38, zr196_39, zr196_41, zr196_44, zr196_46, zr196_47, zr196_48, zr196_49, zr196_50, zr196_51, zr196_54, zr196_56, zr196_57, zr196_61, zr196_62, zr196_65, zr196_68, zr196_69, zr196_70, zr196_73, zr196_74, zr196_75, zr196_76, zr196_79, zr196_80, zr196_81, zr196_84, zr196_85, zr196_86, zr196_87, zr196_89, zr196_90, zr196_94, zr196_95, zr196_98, zr196_101, zr196_102, zr196_104, zr196_106, zr196_107, zr196_108, zr196_111, zr196_112, zr196_115, zr196_118, zr196_121, zr196_124, zr196_125, zr196_128, zr196_130, zr196_131, zr196_134, zr196_137, zr196_138, zr196_140, zr196_142, zr196_143, zr196_144, zr196_147, zr196_148, zr196_151, zr196_154, zr196_155, zr196_158, zr196_161, zr196_164, zr196_165, zr196_168, zr196_170, zr196_171, zs_m0 N, zs_m1 N, zs_m2 N, zh_m0 ca cb cs, zq_kill_int, zq_kill_ref, zq_kill_ret, zq_kill_null, zq_kill_long, zq_rf_some, zq_rf_none, true_and, and_true, true_implies, not_true_eq_false, not_false_eq_true, false_implies, Bool.true_eq_false, Bool.false_eq_true, nI_1, zb_i0, zb_i1, zb_i2, Option.toList_some, Option.toList_none, List.cons_append, List.nil_append, true_or, or_true, implies_true, zb_it, zb_if, zb_10, zb_00, zb_n5, zb_n2, zb_m1, zb_m3, zb_m9, or_true, true_or, or_false, false_or, h3, e60]
  | succ m ih =>
    intro hm v7 v8
    have hJ := lJ_sim (s := s) h hW0 (n - (m + 1)) (by omega)
    have h3 : (nI (n - (m + 1)) < nI n) = True := eq_true ((nI_ltI (by omega) (by omega)).mpr (by omega))
    have h4 : nI (n - (m + 1)) + 1 = nI (n - m) := by rw [nI_1]; congr 1; omega
    have c3 : jn K (lJ hi ca W P D s (n - (m + 1))) 60 10 = nI W := by rw [jn_hi (by omega)]; exact hJ.2.2.2.2.2.1.1.2.2.2.1
    have fw : lk s (n - (m + 1) + 1) / 8 % W ≤ 1000 := by have := Nat.mod_lt (lk s (n - (m + 1) + 1) / 8) hW0; omega
    have ek : n - (m + 1) + 1 = n - m := by omega
    rw [zr196_59]
    simp only [zr196_0, zr196_1, zr196_2, zr196_4, zr196_7, zr196_10, zr196_11, zr196_12, zr196_15, zr196_18, zr196_21, zr196_22, zr196_23, zr196_24, zr196_27, zr196_30, zr196_32, zr196_33, zr196_34, zr196_37, zr196_38, zr196_39, zr196_41, zr196_44, zr196_46, zr196_47, zr196_48, zr196_49, zr196_50, zr196_51, zr196_54, zr196_56, zr196_57, zr196_61, zr196_62, zr196_65, zr196_68, zr196_69, zr196_70, zr196_73, zr196_74, zr196_75, zr196_76, zr196_79, zr196_80, zr196_81, zr196_84, zr196_85, zr196_86, zr196_87, zr196_89, zr196_90, zr196_94, zr196_95, zr196_98, zr196_101, zr196_102, zr196_104, zr196_106, zr196_107, zr196_108, zr196_111, zr196_112, zr196_115, zr196_118, zr196_121, zr196_124, zr196_125, zr196_128, zr196_130, zr196_131, zr196_134, zr196_137, zr196_138, zr196_140, zr196_142, zr196_143, zr196_144, zr196_147, zr196_148, zr196_151, zr196_154, zr196_155, zr196_158, zr196_161, zr196_164, zr196_165, zr196_168, zr196_170, zr196_171, zs_m0 N, zs_m1 N, zs_m2 N, zh_m0 ca cb cs, zq_kill_int, zq_kill_ref, zq_kill_ret, zq_kill_null, zq_kill_long, zq_rf_some, zq_rf_none, true_and, and_true, true_implies, not_true_eq_false, not_false_eq_true, false_implies, Bool.true_eq_false, Bool.false_eq_true, nI_1, zb_i0, zb_i1, zb_i2, Option.toList_some, Option.toList_none, List.cons_append, List.nil_append, true_or, or_true, implies_true, zb_it, zb_if, zb_10, zb_00, zb_n5, zb_n2, zb_m1, zb_m3, zb_m9, or_true, true_or, or_false, false_or, h3, lk_m hs, eM, e8, eW, c3, lk_w (lk_lt hs (n - (m + 1) + 1)) hW0 w1]
    have inn := k_M_lots_in (N := N) (d := d + 1) (Q := Q) (C := jn K (lJ hi ca W P D s (n - (m + 1)))) (J := lJ hi ca W P D s (n - (m + 1))) (hl2 := hl) (k := n - (m + 1)) (v1 := nI n) (v2 := x2) (v4 := v5) (v3 := lN (lk s (n - (m + 1) + 1))) (R := Q (some (.int (lJ hi ca W P D s n 60 27 - v5))) (zq_SG N, jn K (lJ hi ca W P D s n), hl, zq_HR ca cb cs)) hJ hW0 (by omega) fw (fun a ha => jn_hi ha) W (Nat.le_refl _)
    rw [Nat.sub_self] at inn
    refine inn fun st => ?_
    have step := ih (by omega) (.int (nI (lk s (n - (m + 1) + 1) / 8 % W))) (.int (nI st))
    rw [← ek, lJ_s] at step
    unfold lx at step
    rw [← mst_jn, jn_hi_cst] at step
    rw [← step]
    simp only [zr196_0, zr196_1, zr196_2, zr196_4, zr196_7, zr196_10, zr196_11, zr196_12, zr196_15, zr196_18, zr196_21, zr196_22, zr196_23, zr196_24, zr196_27, zr196_30, zr196_32, zr196_33, zr196_34, zr196_37, zr196_38, zr196_39, zr196_41, zr196_44, zr196_46, zr196_47, zr196_48, zr196_49, zr196_50, zr196_51, zr196_54, zr196_56, zr196_57, zr196_61, zr196_62, zr196_65, zr196_68, zr196_69, zr196_70, zr196_73, zr196_74, zr196_75, zr196_76, zr196_79, zr196_80, zr196_81, zr196_84, zr196_85, zr196_86, zr196_87, zr196_89, zr196_90, zr196_94, zr196_95, zr196_98, zr196_101, zr196_102, zr196_104, zr196_106, zr196_107, zr196_108, zr196_111, zr196_112, zr196_115, zr196_118, zr196_121, zr196_124, zr196_125, zr196_128, zr196_130, zr196_131, zr196_134, zr196_137, zr196_138, zr196_140, zr196_142, zr196_143, zr196_144, zr196_147, zr196_148, zr196_151, zr196_154, zr196_155, zr196_158, zr196_161, zr196_164, zr196_165, zr196_168, zr196_170, zr196_171, zs_m0 N, zs_m1 N, zs_m2 N, zh_m0 ca cb cs, zq_kill_int, zq_kill_ref, zq_kill_ret, zq_kill_null, zq_kill_long, zq_rf_some, zq_rf_none, true_and, and_true, true_implies, not_true_eq_false, not_false_eq_true, false_implies, Bool.true_eq_false, Bool.false_eq_true, nI_1, zb_i0, zb_i1, zb_i2, Option.toList_some, Option.toList_none, List.cons_append, List.nil_append, true_or, or_true, implies_true, zb_it, zb_if, zb_10, zb_00, zb_n5, zb_n2, zb_m1, zb_m3, zb_m9, or_true, true_or, or_false, false_or, nI_1]
end Z39
section Z39b
variable {N : Nat} {x z : Int32}
theorem zb_lot : (z < 2147483647) = ¬ (2147483646 : Int32) < z := by
  rw [Int32.lt_iff_toInt_lt, Int32.lt_iff_toInt_lt]
  show (z.toInt < 2147483647) = ¬ (2147483646 < z.toInt)
  apply propext; omega
theorem p_lots : zq_pair N 97 196 [.ref 0, .int x, .int z, .retAddr 0, .retAddr 0, .retAddr 0, .retAddr 0] [.ref 60, .int x, .int z, .retAddr 0, .retAddr 0, .retAddr 0, .retAddr 0, .retAddr 0, .retAddr 0] := by
  intro hi hl ca cb cs W P D h
  have hcc := h.court
  have hc := zq_Ct_ok (N := N) (ca := ca) (cb := cb) (cs := cs) h.court
  obtain ⟨⟨w1, w2, w3, w4, w5, w6, -⟩, -⟩ := id h.2.2.2.2.2.1
  obtain ⟨⟨d0, d1, d2, d3, d4, d5⟩, -⟩ := id h.2.2.2.2.2.2
  by_cases hx : (¬ x < 1 ∧ ¬ 20 < x) ∧ ¬ z < 1 ∧ ¬ 2147483646 < z
  · have hi1 : zm_in x 1 20 = true := by unfold zm_in; rw [decide_eq_true_eq]; exact hx.1
    have hi2 : zm_in z 1 2147483646 = true := by unfold zm_in; rw [decide_eq_true_eq]; exact hx.2
    by_cases hW0 : W = 0
    · have e0 : (nI W = 0) = True := eq_true (by rw [hW0]; rfl)
      refine ⟨.int (-4), hi, hl, ca, cb, cs, hi, hl, W, P, D, fun Q => ?_, fun Q => ?_, h⟩
      · simp only [zr97_0, zr97_1, zr97_2, zr97_5, zr97_6, zr97_8, zr97_11, zr97_12, zr97_13, zr97_16, zr97_17, zr97_20, zr97_23, zr97_24, zr97_25, zr97_26, zr97_29, zr97_32, zr97_35, zr97_37, zr97_38, zr97_39, zr97_42, zr97_45, zr97_46, zr97_47, zr97_49, zr97_52, zr97_54, zr97_55, zr97_56, zr97_59, zr97_62, zr97_63, zr97_64, zr97_65, zr97_67, zr97_68, zr97_72, zr97_73, zr97_76, zr97_78, zr97_81, zr97_82, zr97_85, zr97_86, zr97_88, zr97_89, zr97_90, zr97_92, zr97_95, zr97_96, zr97_97, zr97_100, zr97_103, zr97_104, zr97_105, zr97_106, zr97_109, zr97_112, zr97_115, zr97_118, zr97_119, zr97_122, zr97_125, zr97_126, zr97_127, zs_x0 N, zh_x0 ca cb cs, hc.1, zq_kill_int, zq_kill_ref, zq_kill_ret, zq_kill_null, zq_kill_long, zq_rf_some, zq_rf_none, true_and, and_true, true_implies, not_true_eq_false, not_false_eq_true, false_implies, Bool.true_eq_false, Bool.false_eq_true, nI_1, zb_i0, zb_i1, zb_i2, Option.toList_some, Option.toList_none, List.cons_append, List.nil_append, true_or, or_true, implies_true, zb_it, zb_if, zb_10, zb_00, zb_n5, zb_n2, zb_m1, zb_m3, zb_m9, or_true, true_or, or_false, false_or, zb_lot, hx, w3, e0]
      · simp only [zr196_0, zr196_1, zr196_2, zr196_4, zr196_7, zr196_10, zr196_11, zr196_12, zr196_15, zr196_18, zr196_21, zr196_22, zr196_23, zr196_24, zr196_27, zr196_30, zr196_32, zr196_33, zr196_34, zr196_37, zr196_38, zr196_39, zr196_41, zr196_44, zr196_46, zr196_47, zr196_48, zr196_49, zr196_50, zr196_51, zr196_54, zr196_56, zr196_57, zr196_61, zr196_62, zr196_65, zr196_68, zr196_69, zr196_70, zr196_73, zr196_74, zr196_75, zr196_76, zr196_79, zr196_80, zr196_81, zr196_84, zr196_85, zr196_86, zr196_87, zr196_89, zr196_90, zr196_94, zr196_95, zr196_98, zr196_101, zr196_102, zr196_104, zr196_106, zr196_107, zr196_108, zr196_111, zr196_112, zr196_115, zr196_118, zr196_121, zr196_124, zr196_125, zr196_128, zr196_130, zr196_131, zr196_134, zr196_137, zr196_138, zr196_140, zr196_142, zr196_143, zr196_144, zr196_147, zr196_148, zr196_151, zr196_154, zr196_155, zr196_158, zr196_161, zr196_164, zr196_165, zr196_168, zr196_170, zr196_171, zs_m0 N, zs_m1 N, zs_m2 N, zh_m0 ca cb cs, zq_kill_int, zq_kill_ref, zq_kill_ret, zq_kill_null, zq_kill_long, zq_rf_some, zq_rf_none, true_and, and_true, true_implies, not_true_eq_false, not_false_eq_true, false_implies, Bool.true_eq_false, Bool.false_eq_true, nI_1, zb_i0, zb_i1, zb_i2, Option.toList_some, Option.toList_none, List.cons_append, List.nil_append, true_or, or_true, implies_true, zb_it, zb_if, zb_10, zb_00, zb_n5, zb_n2, zb_m1, zb_m3, zb_m9, or_true, true_or, or_false, false_or, k_M_in, hi1, hi2, w4, e0]
    · have e0 : (nI W = 0) = False := eq_false (nI_ne0 (by omega) (by omega))
      obtain ⟨n, hn, rfl⟩ := nI_of2 (x := x) (M := 20) (n := 20) (by decide) (fun q => hx.1.1 (Int32.lt_trans q (by decide))) (Int32.not_lt.mp hx.1.2)
      obtain ⟨s, hs, rfl⟩ := nI_of (x := z) (fun q => hx.2.1 (Int32.lt_trans q (by decide)))
      have e40 : (40 < nI D + nI n) = (40 < D + n) := by rw [nI_add]; exact zb_lt (a := 40) (by omega) (by omega)
      by_cases hf : 40 < D + n
      · refine ⟨.int (-2), hi, hl, ca, cb, cs, hi, hl, W, P, D, fun Q => ?_, fun Q => ?_, h⟩
        · simp only [zr97_0, zr97_1, zr97_2, zr97_5, zr97_6, zr97_8, zr97_11, zr97_12, zr97_13, zr97_16, zr97_17, zr97_20, zr97_23, zr97_24, zr97_25, zr97_26, zr97_29, zr97_32, zr97_35, zr97_37, zr97_38, zr97_39, zr97_42, zr97_45, zr97_46, zr97_47, zr97_49, zr97_52, zr97_54, zr97_55, zr97_56, zr97_59, zr97_62, zr97_63, zr97_64, zr97_65, zr97_67, zr97_68, zr97_72, zr97_73, zr97_76, zr97_78, zr97_81, zr97_82, zr97_85, zr97_86, zr97_88, zr97_89, zr97_90, zr97_92, zr97_95, zr97_96, zr97_97, zr97_100, zr97_103, zr97_104, zr97_105, zr97_106, zr97_109, zr97_112, zr97_115, zr97_118, zr97_119, zr97_122, zr97_125, zr97_126, zr97_127, zs_x0 N, zh_x0 ca cb cs, hc.1, zq_kill_int, zq_kill_ref, zq_kill_ret, zq_kill_null, zq_kill_long, zq_rf_some, zq_rf_none, true_and, and_true, true_implies, not_true_eq_false, not_false_eq_true, false_implies, Bool.true_eq_false, Bool.false_eq_true, nI_1, zb_i0, zb_i1, zb_i2, Option.toList_some, Option.toList_none, List.cons_append, List.nil_append, true_or, or_true, implies_true, zb_it, zb_if, zb_10, zb_00, zb_n5, zb_n2, zb_m1, zb_m3, zb_m9, or_true, true_or, or_false, false_or, zb_lot, hx, w3, e0, d2, e40, hf]
        · simp only [zr196_0, zr196_1, zr196_2, zr196_4, zr196_7, zr196_10, zr196_11, zr196_12, zr196_15, zr196_18, zr196_21, zr196_22, zr196_23, zr196_24, zr196_27, zr196_30, zr196_32, zr196_33, zr196_34, zr196_37, zr196_38, zr196_39, zr196_41, zr196_44, zr196_46, zr196_47, zr196_48, zr196_49, zr196_50, zr196_51, zr196_54, zr196_56, zr196_57, zr196_61, zr196_62, zr196_65, zr196_68, zr196_69, zr196_70, zr196_73, zr196_74, zr196_75, zr196_76, zr196_79, zr196_80, zr196_81, zr196_84, zr196_85, zr196_86, zr196_87, zr196_89, zr196_90, zr196_94, zr196_95, zr196_98, zr196_101, zr196_102, zr196_104, zr196_106, zr196_107, zr196_108, zr196_111, zr196_112, zr196_115, zr196_118, zr196_121, zr196_124, zr196_125, zr196_128, zr196_130, zr196_131, zr196_134, zr196_137, zr196_138, zr196_140, zr196_142, zr196_143, zr196_144, zr196_147, zr196_148, zr196_151, zr196_154, zr196_155, zr196_158, zr196_161, zr196_164, zr196_165, zr196_168, zr196_170, zr196_171, zs_m0 N, zs_m1 N, zs_m2 N, zh_m0 ca cb cs, zq_kill_int, zq_kill_ref, zq_kill_ret, zq_kill_null, zq_kill_long, zq_rf_some, zq_rf_none, true_and, and_true, true_implies, not_true_eq_false, not_false_eq_true, false_implies, Bool.true_eq_false, Bool.false_eq_true, nI_1, zb_i0, zb_i1, zb_i2, Option.toList_some, Option.toList_none, List.cons_append, List.nil_append, true_or, or_true, implies_true, zb_it, zb_if, zb_10, zb_00, zb_n5, zb_n2, zb_m1, zb_m3, zb_m9, or_true, true_or, or_false, false_or, k_M_in, hi1, hi2, w4, e0, d3, e40, hf]
      · have sl : (nI s).toInt64 = lN s := nI_l (by omega)
        have hS := lJ_sim (s := s) h (by omega) n (by omega)
        have hq := hS.2.2.2.2.2.2
        have e5 : lJ hi ca W P D s n 32 5 = lJ hi ca W P D s n 60 27 := by rw [hq.2.2.1.2.1, hq.2.2.2.1.2.1]
        have e6 : hi 32 5 = hi 60 27 := by
          have hq := h.2.2.2.2.2.2
          rw [hq.2.2.1.2.1, hq.2.2.2.1.2.1]
        have jj : jn (jn (lJ hi ca W P D s n) hi) (lJ hi ca W P D s n) = lJ hi ca W P D s n := by
          funext a
          by_cases q : a < 60
          · rw [jn_lo q, jn_lo q]
          · rw [jn_hi (by omega)]
        have jj0 : jn (jn (lJ hi ca W P D s n) hi) (lJ hi ca W P D s 0) = jn (lJ hi ca W P D s n) hi := by
          funext a
          by_cases q : a < 60
          · rw [jn_lo q]
          · rw [jn_hi (by omega), jn_hi (by omega)]; rfl
        refine ⟨.int (lJ hi ca W P D s n 32 5 - hi 32 5), jn (lJ hi ca W P D s n) hi, hl, ca, cb, cs, lJ hi ca W P D s n, hl, W, P, D + n, fun Q => ?_, fun Q => ?_, hS⟩
        · have l := k_EF_lots_loop (N := N) (d := 52) (Q := Q) (n := n) (x2 := nI s) (v3 := hi 32 5) h (by omega) (by omega) (show s < 2147483648 by omega)
          simp only [zr97_0, zr97_1, zr97_2, zr97_5, zr97_6, zr97_8, zr97_11, zr97_12, zr97_13, zr97_16, zr97_17, zr97_20, zr97_23, zr97_24, zr97_25, zr97_26, zr97_29, zr97_32, zr97_35, zr97_37, zr97_38, zr97_39, zr97_42, zr97_45, zr97_46, zr97_47, zr97_49, zr97_52, zr97_54, zr97_55, zr97_56, zr97_59, zr97_62, zr97_63, zr97_64, zr97_65, zr97_67, zr97_68, zr97_72, zr97_73, zr97_76, zr97_78, zr97_81, zr97_82, zr97_85, zr97_86, zr97_88, zr97_89, zr97_90, zr97_92, zr97_95, zr97_96, zr97_97, zr97_100, zr97_103, zr97_104, zr97_105, zr97_106, zr97_109, zr97_112, zr97_115, zr97_118, zr97_119, zr97_122, zr97_125, zr97_126, zr97_127, zs_x0 N, zh_x0 ca cb cs, hc.1, zq_kill_int, zq_kill_ref, zq_kill_ret, zq_kill_null, zq_kill_long, zq_rf_some, zq_rf_none, true_and, and_true, true_implies, not_true_eq_false, not_false_eq_true, false_implies, Bool.true_eq_false, Bool.false_eq_true, nI_1, zb_i0, zb_i1, zb_i2, Option.toList_some, Option.toList_none, List.cons_append, List.nil_append, true_or, or_true, implies_true, zb_it, zb_if, zb_10, zb_00, zb_n5, zb_n2, zb_m1, zb_m3, zb_m9, or_true, true_or, or_false, false_or, zb_lot, hx, w3, e0, d2, e40, hf, sl]
          exact l
        · have l := k_M_lots_loop (N := N) (d := 53) (Q := Q) (n := n) (x2 := nI s) (v5 := hi 60 27) (K := jn (lJ hi ca W P D s n) hi) h (by omega) (by omega) (show s < 2147483648 by omega) n (Nat.le_refl _) (.retAddr 0) (.retAddr 0)
          rw [Nat.sub_self, jj, jj0] at l
          have j60 : jn (lJ hi ca W P D s n) hi 60 = hi 60 := jn_hi (by omega)
          rw [e5, e6]
          simp only [zr196_0, zr196_1, zr196_2, zr196_4, zr196_7, zr196_10, zr196_11, zr196_12, zr196_15, zr196_18, zr196_21, zr196_22, zr196_23, zr196_24, zr196_27, zr196_30, zr196_32, zr196_33, zr196_34, zr196_37, zr196_38, zr196_39, zr196_41, zr196_44, zr196_46, zr196_47, zr196_48, zr196_49, zr196_50, zr196_51, zr196_54, zr196_56, zr196_57, zr196_61, zr196_62, zr196_65, zr196_68, zr196_69, zr196_70, zr196_73, zr196_74, zr196_75, zr196_76, zr196_79, zr196_80, zr196_81, zr196_84, zr196_85, zr196_86, zr196_87, zr196_89, zr196_90, zr196_94, zr196_95, zr196_98, zr196_101, zr196_102, zr196_104, zr196_106, zr196_107, zr196_108, zr196_111, zr196_112, zr196_115, zr196_118, zr196_121, zr196_124, zr196_125, zr196_128, zr196_130, zr196_131, zr196_134, zr196_137, zr196_138, zr196_140, zr196_142, zr196_143, zr196_144, zr196_147, zr196_148, zr196_151, zr196_154, zr196_155, zr196_158, zr196_161, zr196_164, zr196_165, zr196_168, zr196_170, zr196_171, zs_m0 N, zs_m1 N, zs_m2 N, zh_m0 ca cb cs, zq_kill_int, zq_kill_ref, zq_kill_ret, zq_kill_null, zq_kill_long, zq_rf_some, zq_rf_none, true_and, and_true, true_implies, not_true_eq_false, not_false_eq_true, false_implies, Bool.true_eq_false, Bool.false_eq_true, nI_1, zb_i0, zb_i1, zb_i2, Option.toList_some, Option.toList_none, List.cons_append, List.nil_append, true_or, or_true, implies_true, zb_it, zb_if, zb_10, zb_00, zb_n5, zb_n2, zb_m1, zb_m3, zb_m9, or_true, true_or, or_false, false_or, k_M_in, hi1, hi2, j60, w4, e0, d3, e40, hf, sl]
          exact l
  · refine ⟨.int (-1), hi, hl, ca, cb, cs, hi, hl, W, P, D, fun Q => ?_, fun Q => ?_, h⟩
    · simp only [zr97_0, zr97_1, zr97_2, zr97_5, zr97_6, zr97_8, zr97_11, zr97_12, zr97_13, zr97_16, zr97_17, zr97_20, zr97_23, zr97_24, zr97_25, zr97_26, zr97_29, zr97_32, zr97_35, zr97_37, zr97_38, zr97_39, zr97_42, zr97_45, zr97_46, zr97_47, zr97_49, zr97_52, zr97_54, zr97_55, zr97_56, zr97_59, zr97_62, zr97_63, zr97_64, zr97_65, zr97_67, zr97_68, zr97_72, zr97_73, zr97_76, zr97_78, zr97_81, zr97_82, zr97_85, zr97_86, zr97_88, zr97_89, zr97_90, zr97_92, zr97_95, zr97_96, zr97_97, zr97_100, zr97_103, zr97_104, zr97_105, zr97_106, zr97_109, zr97_112, zr97_115, zr97_118, zr97_119, zr97_122, zr97_125, zr97_126, zr97_127, zs_x0 N, zh_x0 ca cb cs, zq_kill_int, zq_kill_ref, zq_kill_ret, zq_kill_null, zq_kill_long, zq_rf_some, zq_rf_none, true_and, and_true, true_implies, not_true_eq_false, not_false_eq_true, false_implies, Bool.true_eq_false, Bool.false_eq_true, nI_1, zb_i0, zb_i1, zb_i2, Option.toList_some, Option.toList_none, List.cons_append, List.nil_append, true_or, or_true, implies_true, zb_it, zb_if, zb_10, zb_00, zb_n5, zb_n2, zb_m1, zb_m3, zb_m9, or_true, true_or, or_false, false_or, zb_lot]
      by_cases q1 : x < 1 <;> by_cases q2 : 20 < x <;> by_cases q3 : z < 1 <;> by_cases q4 : 2147483646 < z <;> simp [q1, q2, q3, q4]
      exact absurd ⟨⟨q1, q2⟩, q3, q4⟩ hx
    · simp only [zr196_0, zr196_1, zr196_2, zr196_4, zr196_7, zr196_10, zr196_11, zr196_12, zr196_15, zr196_18, zr196_21, zr196_22, zr196_23, zr196_24, zr196_27, zr196_30, zr196_32, zr196_33, zr196_34, zr196_37, zr196_38, zr196_39, zr196_41, zr196_44, zr196_46, zr196_47, zr196_48, zr196_49, zr196_50, zr196_51, zr196_54, zr196_56, zr196_57, zr196_61, zr196_62, zr196_65, zr196_68, zr196_69, zr196_70, zr196_73, zr196_74, zr196_75, zr196_76, zr196_79, zr196_80, zr196_81, zr196_84, zr196_85, zr196_86, zr196_87, zr196_89, zr196_90, zr196_94, zr196_95, zr196_98, zr196_101, zr196_102, zr196_104, zr196_106, zr196_107, zr196_108, zr196_111, zr196_112, zr196_115, zr196_118, zr196_121, zr196_124, zr196_125, zr196_128, zr196_130, zr196_131, zr196_134, zr196_137, zr196_138, zr196_140, zr196_142, zr196_143, zr196_144, zr196_147, zr196_148, zr196_151, zr196_154, zr196_155, zr196_158, zr196_161, zr196_164, zr196_165, zr196_168, zr196_170, zr196_171, zs_m0 N, zs_m1 N, zs_m2 N, zh_m0 ca cb cs, zq_kill_int, zq_kill_ref, zq_kill_ret, zq_kill_null, zq_kill_long, zq_rf_some, zq_rf_none, true_and, and_true, true_implies, not_true_eq_false, not_false_eq_true, false_implies, Bool.true_eq_false, Bool.false_eq_true, nI_1, zb_i0, zb_i1, zb_i2, Option.toList_some, Option.toList_none, List.cons_append, List.nil_append, true_or, or_true, implies_true, zb_it, zb_if, zb_10, zb_00, zb_n5, zb_n2, zb_m1, zb_m3, zb_m9, or_true, true_or, or_false, false_or, k_M_in, zm_in]
      by_cases q1 : x < 1 <;> by_cases q2 : 20 < x <;> by_cases q3 : z < 1 <;> by_cases q4 : 2147483646 < z <;> simp [q1, q2, q3, q4]
      exact absurd ⟨⟨q1, q2⟩, q3, q4⟩ hx
end Z39b
