/-! setPlans as a whole; the class counts plans; plans -/
/-- how many plans there are -/
def cnp (ok : zq_I → Nat → Bool) (W : Nat) : Nat → zq_I → Nat
  | 0, _ => 1
  | m + 1, M => fo (fun w s => if ok M w = true then s + cnp ok W m (zm_go M w) else s) W 0
theorem cnp_s (ok : zq_I → Nat → Bool) (W m : Nat) (M : zq_I) : cnp ok W (m + 1) M = fo (fun w s => if ok M w = true then s + cnp ok W m (zm_go M w) else s) W 0 := rfl
theorem ent_1 (a : exT) (k : Nat) (π : Nat → Nat) : (ent a k π).1 = a.1 := by
  unfold ent
  split <;> rfl
theorem ent_2 (a : exT) (k : Nat) (π : Nat → Nat) : (ent a k π).2.1 = a.2.1 := by
  unfold ent
  split <;> rfl
theorem ex_s (ok : zq_I → Nat → Bool) (W : Nat) (t : Nat → Nat) (m k : Nat) (M : zq_I) (s : Nat) (π : Nat → Nat) (a : exT) : ex ok W t (m + 1) k M s π a = fo (fun w a => if ok M w = true then ex ok W t m (k + 1) (zm_go M w) (s + t w) (upn π k w) (ent a (k + 1) (upn π k w)) else a) W a := rfl
theorem ex_1 {ok : zq_I → Nat → Bool} {W : Nat} {t : Nat → Nat} : ∀ m k M s π a, (ex ok W t m k M s π a).1 = a.1 + cnp ok W m M := by
  intro m
  induction m with
  | zero => intro k M s π a; rfl
  | succ m ih =>
    intro k M s π a
    rw [ex_s, cnp_s]
    have key : ∀ v, (fo (fun w a => if ok M w = true then ex ok W t m (k + 1) (zm_go M w) (s + t w) (upn π k w) (ent a (k + 1) (upn π k w)) else a) v a).1 = a.1 + fo (fun w s => if ok M w = true then s + cnp ok W m (zm_go M w) else s) v 0 := by
      intro v
      induction v with
      | zero => rfl
      | succ v ihv =>
        simp only [fo_s]
        by_cases e : ok M v = true
        · rw [if_pos e, if_pos e, ih, ent_1, ihv]; omega
        · rw [if_neg e, if_neg e, ihv]
    exact key W
theorem cnp_le {ok : zq_I → Nat → Bool} {W : Nat} : ∀ m M, cnp ok W m M ≤ W ^ m := by
  intro m
  induction m with
  | zero => intro M; exact Nat.le_refl _
  | succ m ih =>
    intro M
    rw [cnp_s]
    have key : ∀ v, fo (fun w s => if ok M w = true then s + cnp ok W m (zm_go M w) else s) v 0 ≤ v * W ^ m := by
      intro v
      induction v with
      | zero => exact Nat.zero_le _
      | succ v ihv =>
        simp only [fo_s]
        rw [Nat.succ_mul]
        have := ih (zm_go M v)
        split <;> omega
    have := key W
    rw [Nat.pow_succ, Nat.mul_comm]
    exact this
theorem zw_le6 : ∀ W, W ≤ 7 → ∀ n, n ≤ 6 → W ^ n ≤ 117649 := by decide
theorem pcn_s : ∀ n, n < 7 → ∀ s, s < 2 ^ n → pcn (s + 2 ^ n) = pcn s + 1 := by decide +kernel
theorem pc_num {p : Nat → Bool} : ∀ {W : Nat}, W ≤ 7 → pcn (zb_num p W) = fo (fun w s => if p w = true then s + 1 else s) W 0 := by
  intro W
  induction W with
  | zero => intro _; simp [zb_num, fo, pcn]
  | succ n ih =>
    intro h
    have hn := (zb_setN (p := p) (W := n) (by omega)).2
    simp only [fo_s]
    unfold zb_num
    by_cases e : p n = true
    · rw [if_pos e, if_pos e, pcn_s n (by omega) _ hn, ih (by omega)]
    · rw [if_neg e, if_neg e, ih (by omega)]
theorem zb_no7 : ∀ s, s < 8 → nI s &&& ((7 : Int32) ^^^ (-1)) = 0 := by decide
section Z51
variable {N ca cb cs c d W P D n k w : Nat} {hi C C2 M H K : zq_I} {hl : zq_J} {Q : Option Value → zq_G → Prop} {t : Nat → Nat} {may b0 : Int32}
theorem k_M_setPlans (hn : n ≤ 6) (hM : Mok W P t M) : ∃ H', sfr M H' ∧ RS n H' (ex (okm W P may) W t n 0 M 0 (fun _ => 0) (0, none, 0, fun _ => 0)) ∧ ∀ Q, zq_P (d + 5) 171 0 [.ref 60, .int (nI n), .int may, .retAddr 0, .retAddr 0] [] (zq_SG N, M, hl, zq_HR ca cb cs) Q = Q none (zq_SG N, H', hl, zq_HR ca cb cs) := by
  generalize hH0 : zq_u (zq_u (zq_u (zq_u M 60 39 0) 60 40 1048576) 60 41 0) 80 0 (-1) = H0
  have s0 : sfr M H0 := by rw [← hH0]; exact sfr_u80 (sfr_u60 (by omega) (sfr_u60 (by omega) (sfr_u60 (by omega) ⟨fun _ _ _ => rfl, fun _ _ => rfl⟩)))
  have r0 : RS n H0 (0, none, 0, fun _ => 0) := by
    rw [← hH0]
    refine ⟨?_, ?_, ?_, Nat.zero_le _, fun j hj => absurd hj (Nat.not_lt_zero _)⟩
    · rw [zq_u_ne (by omega), zq_u_kn (by omega), zq_u_kn (by omega), zq_u_eq]; rfl
    · show zq_u _ 80 0 (-1) 60 40 = 1048576
      rw [zq_u_ne (by omega), zq_u_kn (by omega), zq_u_eq]
    · rw [zq_u_ne (by omega), zq_u_eq]; rfl
  obtain ⟨H', s1, -, r1, e1⟩ := k_M_setPlans_in (N := N) (ca := ca) (cb := cb) (cs := cs) (d := d) (hl := hl) (may := may) (b0 := M 60 26) hn n 0 (by omega) M 0 (fun _ => 0) (0, none, 0, fun _ => 0) H0 hM s0 (fun j hj => absurd hj (Nat.not_lt_zero _)) r0 (by rw [Int32.sub_self]; rfl) (by omega) (by rw [← hH0, zq_u_eq])
  refine ⟨H', s1, r1, fun Q => ?_⟩
  have e2 : zq_P (d + 5) 171 32 [.ref 60, .int (nI n), .int may, .int (M 60 26), .int 0] [] (zq_SG N, H0, hl, zq_HR ca cb cs) Q = zq_P (d + 5) 171 201 [.ref 60, .int (nI n), .int may, .int (M 60 26), .int 0] [] (zq_SG N, H', hl, zq_HR ca cb cs) Q := e1 Q
  have x1 : zq_xS (0 : Int32) 7 := zb_x (k := 0) (n := 7) (by omega) (by omega)
  have x2 : (0 : Int32).toNatClampNeg = 0 := rfl
  have em : (0 : Int32) + (-1) = -1 := by decide
  simp only [zr171_0, zr171_1, zr171_4, zr171_5, zr171_6, zr171_7, zr171_10, zr171_11, zr171_14, zr171_17, zr171_18, zr171_19, zr171_22, zr171_23, zr171_25, zr171_26, zr171_29, zr171_30, zr171_31, zr171_34, zr171_37, zr171_39, zr171_40, zr171_43, zr171_44, zr171_45, zr171_48, zr171_49, zr171_50, zr171_53, zr171_54, zr171_57, zr171_58, zr171_59, zr171_60, zr171_63, zr171_66, zr171_67, zr171_68, zr171_71, zr171_72, zr171_73, zr171_76, zr171_77, zr171_80, zr171_81, zr171_84, zr171_87, zr171_90, zr171_91, zr171_94, zr171_96, zr171_97, zr171_98, zr171_101, zr171_103, zr171_104, zr171_105, zr171_106, zr171_107, zr171_110, zr171_111, zr171_113, zr171_114, zr171_117, zr171_118, zr171_121, zr171_123, zr171_124, zr171_125, zr171_128, zr171_131, zr171_132, zr171_135, zr171_137, zr171_138, zr171_141, zr171_142, zr171_145, zr171_147, zr171_148, zr171_149, zr171_150, zr171_151, zr171_152, zr171_155, zr171_157, zr171_158, zr171_161, zr171_164, zr171_165, zr171_168, zr171_170, zr171_171, zr171_172, zr171_174, zr171_175, zr171_178, zr171_181, zr171_182, zr171_184, zr171_187, zr171_188, zr171_191, zr171_192, zr171_195, zr171_198, zr171_204, zr171_206, zr171_209, zr171_210, zr171_212, zr171_215, zr171_218, zs_m0 N, zs_m1 N, zs_m2 N, zh_m0 ca cb cs, zq_kill_int, zq_kill_ref, zq_kill_ret, zq_kill_null, zq_kill_long, zq_rf_some, zq_rf_none, true_and, and_true, true_implies, not_true_eq_false, not_false_eq_true, false_implies, Bool.true_eq_false, Bool.false_eq_true, nI_1, zb_i0, zb_i1, zb_i2, Option.toList_some, Option.toList_none, List.cons_append, List.nil_append, true_or, or_true, implies_true, zb_it, zb_if, zb_10, zb_00, zb_n5, zb_n2, zb_m1, zb_m3, zb_m9, or_true, true_or, or_false, false_or, x1, x2, hH0]
  refine Eq.trans e2 ?_
  rw [zr171_201]
  simp only [zr171_0, zr171_1, zr171_4, zr171_5, zr171_6, zr171_7, zr171_10, zr171_11, zr171_14, zr171_17, zr171_18, zr171_19, zr171_22, zr171_23, zr171_25, zr171_26, zr171_29, zr171_30, zr171_31, zr171_34, zr171_37, zr171_39, zr171_40, zr171_43, zr171_44, zr171_45, zr171_48, zr171_49, zr171_50, zr171_53, zr171_54, zr171_57, zr171_58, zr171_59, zr171_60, zr171_63, zr171_66, zr171_67, zr171_68, zr171_71, zr171_72, zr171_73, zr171_76, zr171_77, zr171_80, zr171_81, zr171_84, zr171_87, zr171_90, zr171_91, zr171_94, zr171_96, zr171_97, zr171_98, zr171_101, zr171_103, zr171_104, zr171_105, zr171_106, zr171_107, zr171_110, zr171_111, zr171_113, zr171_114, zr171_117, zr171_118, zr171_121, zr171_123, zr171_124, zr171_125, zr171_128, zr171_131, zr171_132, zr171_135, zr171_137, zr171_138, zr171_141, zr171_142, zr171_145, zr171_147, zr171_148, zr171_149, zr171_150, zr171_151, zr171_152, zr171_155, zr171_157, zr171_158, zr171_161, zr171_164, zr171_165, zr171_168, zr171_170, zr171_171, zr171_172, zr171_174, zr171_175, zr171_178, zr171_181, zr171_182, zr171_184, zr171_187, zr171_188, zr171_191, zr171_192, zr171_195, zr171_198, zr171_204, zr171_206, zr171_209, zr171_210, zr171_212, zr171_215, zr171_218, zq_kill_int, zq_kill_ref, zq_kill_ret, zq_kill_null, zq_kill_long, zq_rf_some, zq_rf_none, true_and, and_true, true_implies, not_true_eq_false, not_false_eq_true, false_implies, Bool.true_eq_false, Bool.false_eq_true, nI_1, zb_i0, zb_i1, zb_i2, Option.toList_some, Option.toList_none, List.cons_append, List.nil_append, true_or, or_true, implies_true, zb_it, zb_if, zb_10, zb_00, zb_n5, zb_n2, zb_m1, zb_m3, zb_m9, or_true, true_or, or_false, false_or, em]
  rw [zr171_32]
  simp only [zr171_0, zr171_1, zr171_4, zr171_5, zr171_6, zr171_7, zr171_10, zr171_11, zr171_14, zr171_17, zr171_18, zr171_19, zr171_22, zr171_23, zr171_25, zr171_26, zr171_29, zr171_30, zr171_31, zr171_34, zr171_37, zr171_39, zr171_40, zr171_43, zr171_44, zr171_45, zr171_48, zr171_49, zr171_50, zr171_53, zr171_54, zr171_57, zr171_58, zr171_59, zr171_60, zr171_63, zr171_66, zr171_67, zr171_68, zr171_71, zr171_72, zr171_73, zr171_76, zr171_77, zr171_80, zr171_81, zr171_84, zr171_87, zr171_90, zr171_91, zr171_94, zr171_96, zr171_97, zr171_98, zr171_101, zr171_103, zr171_104, zr171_105, zr171_106, zr171_107, zr171_110, zr171_111, zr171_113, zr171_114, zr171_117, zr171_118, zr171_121, zr171_123, zr171_124, zr171_125, zr171_128, zr171_131, zr171_132, zr171_135, zr171_137, zr171_138, zr171_141, zr171_142, zr171_145, zr171_147, zr171_148, zr171_149, zr171_150, zr171_151, zr171_152, zr171_155, zr171_157, zr171_158, zr171_161, zr171_164, zr171_165, zr171_168, zr171_170, zr171_171, zr171_172, zr171_174, zr171_175, zr171_178, zr171_181, zr171_182, zr171_184, zr171_187, zr171_188, zr171_191, zr171_192, zr171_195, zr171_198, zr171_204, zr171_206, zr171_209, zr171_210, zr171_212, zr171_215, zr171_218, zq_kill_int, zq_kill_ref, zq_kill_ret, zq_kill_null, zq_kill_long, zq_rf_some, zq_rf_none, true_and, and_true, true_implies, not_true_eq_false, not_false_eq_true, false_implies, Bool.true_eq_false, Bool.false_eq_true, nI_1, zb_i0, zb_i1, zb_i2, Option.toList_some, Option.toList_none, List.cons_append, List.nil_append, true_or, or_true, implies_true, zb_it, zb_if, zb_10, zb_00, zb_n5, zb_n2, zb_m1, zb_m3, zb_m9, or_true, true_or, or_false, false_or]
theorem sm_Mok (h : sm_ct M c W P) : Mok W P (fun w => (zm_tr M w).toNatClampNeg) M := by
  obtain ⟨⟨w1, w2, w3, w4, w5, w6, -⟩, -, -⟩ := id h
  refine ⟨⟨w4, w1, w6, w2⟩, sm_nz h, fun w hw => ?_⟩
  obtain ⟨s, hs, e⟩ := sm_tr18 h w hw
  show zm_tr M w = nI (zm_tr M w).toNatClampNeg ∧ (zm_tr M w).toNatClampNeg ≤ 18
  rw [e, zb_cl (by omega)]
  exact ⟨rfl, hs⟩
theorem sm_need (h : sm_ct M c W P) (hw : w < W) : ∃ s, s < 2 ^ P ∧ zm_needs M w = nI s := by
  obtain ⟨-, -, -, -, -, -, -, -, s, hs, e⟩ := h.2.2 w hw
  unfold zm_needs zm_nb
  split
  · exact ⟨0, Nat.pow_pos (by omega), rfl⟩
  · exact ⟨s, hs, e⟩
theorem zm_needs_jn : zm_needs (jn C M) = zm_needs M := by
  funext w
  unfold zm_needs
  rw [jn_hi (by omega), jn_hi (by omega)]
theorem Cor.need (h : Cor c W P D C M) (hw : w < W) : ∃ s, s < 2 ^ P ∧ zm_needs M w = nI s := by
  have := sm_need h.1 hw
  rwa [zm_needs_jn] at this
theorem Cor.ok7 (h : Cor c W P D C M) (hw : w < W) : okm W P 7 M w = cano M W P w := by
  obtain ⟨s, hs, e⟩ := h.need hw
  have := zb_p8 P h.1.1.2.1
  unfold okm
  rw [e, zb_no7 s (by omega), decide_eq_true (show (0 : Int32) = 0 from rfl), Bool.true_and]
theorem k_Search_open7 (hc : c = 36 ∨ c = 45) (h : Cor c W P D C M) : zq_P (d + 4) 67 0 [.ref 54] [] (zq_SG N, C, hl, zq_HR ca cb c) Q = Q (some (.int (zb_set (okm W P 7 M) W))) (zq_SG N, C, hl, zq_HR ca cb c) := by
  rw [k_Search_open hc h, zb_set_cong (q := okm W P 7 M) fun k hk => (h.ok7 hk).symm]
/-- the course aside, a day on and a day back -/
theorem zc_go_55 (f : Nat) : zc_go C c 55 w 55 f = if f = 2 then C 55 2 + 1 else if f = 3 then nI w else if f = 4 then C 55 4 + C (c + 6) w else C 55 f := by
  simp [zc_go, zq_u]
theorem zc_go_56 (f : Nat) : zc_go C c 55 w 56 f = if f = w then C 55 2 else C 56 f := by
  simp [zc_go, zq_u]
theorem zc_go_57 (f : Nat) : zc_go C c 55 w 57 f = if f = w then C 57 w + 1 else C 57 f := by
  simp [zc_go, zq_u]
theorem zc_go_o {a : Nat} (h : a ≠ 55 ∧ a ≠ 56 ∧ a ≠ 57) : zc_go C c 55 w a = C a := by
  funext f
  simp [zc_go, zq_u, h]
/-- but for what the search writes of its own -/
def qfr (C C2 : zq_I) : Prop := (∀ a, a ≠ 54 → a ≠ 58 → a ≠ 59 → C2 a = C a) ∧ ∀ f, f ≠ 6 → C2 54 f = C 54 f
theorem qfr_rfl (C : zq_I) : qfr C C := ⟨fun _ _ _ _ => rfl, fun _ _ => rfl⟩
theorem qfr_tr {A B C : zq_I} (h1 : qfr A B) (h2 : qfr B C) : qfr A C := ⟨fun a a1 a2 a3 => (h2.1 a a1 a2 a3).trans (h1.1 a a1 a2 a3), fun f hf => (h2.2 f hf).trans (h1.2 f hf)⟩
theorem qfr_58 {j : Nat} {v : Int32} : qfr C (zq_u C 58 j v) := ⟨fun a _ a2 _ => zq_u_ne a2, fun f _ => by rw [zq_u_ne (by omega)]⟩
theorem qfr_54 {v : Int32} : qfr C (zq_u C 54 6 v) := ⟨fun a a1 _ _ => zq_u_ne a1, fun f hf => zq_u_kn hf⟩
theorem qfr_59 {v : Nat → Int32} : qfr C (zq_w C 59 v) := ⟨fun a _ _ a3 => zq_w_ne a3, fun f _ => by rw [zq_w_ne (by omega)]⟩
theorem zb_a1 (x : Int32) : x + 1 - 1 = x := zb_asc x 1
theorem qfr_bk (hc : c = 36 ∨ c = 45) (h : qfr (zc_go C c 55 w) C2) : qfr C (zc_bk C2 c 55 w (C 56 w) (C 55 3)) := by
  obtain ⟨h1, h2⟩ := h
  have k5 := h1 55 (by omega) (by omega) (by omega)
  have k6 := h1 56 (by omega) (by omega) (by omega)
  have k7 := h1 57 (by omega) (by omega) (by omega)
  have kc : C2 (c + 6) = C (c + 6) := by rw [h1 (c + 6) (by omega) (by omega) (by omega), zc_go_o (by omega)]
  refine ⟨fun a a1 a2 a3 => ?_, fun f hf => ?_⟩
  · funext f
    by_cases q5 : a = 55
    · subst q5
      have : zc_bk C2 c 55 w (C 56 w) (C 55 3) 55 f = if f = 4 then C2 55 4 - C2 (c + 6) w else if f = 3 then C 55 3 else if f = 2 then C2 55 2 - 1 else C2 55 f := by simp [zc_bk, zq_u]
      rw [this, k5, kc, zc_go_55, zc_go_55, zc_go_55]
      by_cases f4 : f = 4
      · subst f4; rw [if_pos rfl]; exact zb_asc _ _
      · rw [if_neg f4]
        by_cases f3 : f = 3
        · subst f3; rw [if_pos rfl]
        · rw [if_neg f3]
          by_cases f2 : f = 2
          · subst f2; rw [if_pos rfl]; exact zb_asc _ _
          · rw [if_neg f2, if_neg f2, if_neg f3, if_neg f4]
    · by_cases q6 : a = 56
      · subst q6
        have : zc_bk C2 c 55 w (C 56 w) (C 55 3) 56 f = if f = w then C 56 w else C2 56 f := by simp [zc_bk, zq_u]
        rw [this, k6, zc_go_56]
        by_cases e : f = w
        · subst e; rw [if_pos rfl]
        · rw [if_neg e, if_neg e]
      · by_cases q7 : a = 57
        · subst q7
          have : zc_bk C2 c 55 w (C 56 w) (C 55 3) 57 f = if f = w then C2 57 w - 1 else C2 57 f := by simp [zc_bk, zq_u]
          rw [this, k7, zc_go_57, zc_go_57]
          by_cases e : f = w
          · subst e; rw [if_pos rfl, if_pos rfl]; exact zb_asc _ _
          · rw [if_neg e, if_neg e]
        · have : zc_bk C2 c 55 w (C 56 w) (C 55 3) a f = C2 a f := by simp [zc_bk, zq_u, q5, q6, q7]
          rw [this, h1 a a1 a2 a3, zc_go_o ⟨q5, q6, q7⟩]
  · have : zc_bk C2 c 55 w (C 56 w) (C 55 3) 54 f = C2 54 f := by simp [zc_bk, zq_u]
    rw [this, h2 f hf, zc_go_o (by omega)]
theorem zc_bk_o {l a : Int32} {b : Nat} (h : b ≠ 55 ∧ b ≠ 56 ∧ b ≠ 57) : zc_bk C c 55 w l a b = C b := by
  funext f
  simp [zc_bk, zq_u, h]
theorem zc_bk_go (hc : c = 36 ∨ c = 45) : zc_bk (zc_go C c 55 w) c 55 w (C 56 w) (C 55 3) = C := by
  have h := qfr_bk (w := w) hc (qfr_rfl (zc_go C c 55 w))
  funext a
  by_cases q : a = 54 ∨ a = 58 ∨ a = 59
  · rw [zc_bk_o (by omega), zc_go_o (by omega)]
  · exact h.1 a (by omega) (by omega) (by omega)
theorem Cor.q (hc : c = 36 ∨ c = 45) (h : Cor c W P D C M) (hq : qfr C C2) : Cor c W P D C2 M := by
  refine ⟨sm_ct_fr h.1 (fun a ha => ?_) ?_, ?_⟩
  · rcases ha with ha | ha
    · rw [jn_lo (by omega), jn_lo (by omega), hq.1 a (by omega) (by omega) (by omega)]
    · rw [jn_hi (by omega), jn_hi (by omega)]
  · rw [jn_hi (by omega), jn_hi (by omega)]; exact ⟨rfl, rfl, rfl⟩
  · have := h.2
    unfold sm_co sm_ah at this ⊢
    rw [jn_lo (a := 55) (by omega), jn_hi (a := 60) (by omega), jn_lo (a := 55 + 1) (by omega), jn_lo (a := 55 + 2) (by omega), jn_hi (a := 74) (by omega), jn_hi (a := 75) (by omega)] at this ⊢
    rw [hq.1 55 (by omega) (by omega) (by omega), hq.1 (55 + 1) (by omega) (by omega) (by omega), hq.1 (55 + 2) (by omega) (by omega) (by omega)]
    exact this
theorem k_Search_countPlans (hc : c = 36 ∨ c = 45) : ∀ m, m ≤ 6 → ∀ e, m ≤ e → ∀ D C M, Cor c W P D C M → D + m ≤ 200 → ∀ Q, zq_P (e + 5) 66 0 [.ref 54, .int (nI m), .retAddr 0, .retAddr 0, .retAddr 0, .retAddr 0, .retAddr 0, .retAddr 0] [] (zq_SG N, C, hl, zq_HR ca cb c) Q = Q (some (.long (lN (cnp (okm W P 7) W m M)))) (zq_SG N, C, hl, zq_HR ca cb c) := by
  have hct := zq_Ct_ok (N := N) (ca := ca) (cb := cb) (cs := c) hc
  have ho := zq_Co_ok (N := N) (ca := ca) (cb := cb) (cs := c) (o := 55) (Or.inr rfl)
  intro m
  induction m with
  | zero =>
    intro _ e _ D C M hcor hD Q
    have q0 : ((0 : Int32) < nI 0) = False := eq_false (by decide)
    simp only [zr66_0, zr66_1, zr66_4, zr66_5, zr66_6, zr66_7, zr66_10, zr66_11, zr66_12, zr66_13, zr66_16, zr66_17, zr66_20, zr66_21, zr66_22, zr66_23, zr66_24, zr66_25, zr66_29, zr66_30, zr66_33, zr66_36, zr66_39, zr66_40, zr66_42, zr66_43, zr66_44, zr66_45, zr66_48, zr66_51, zr66_52, zr66_55, zr66_58, zr66_60, zr66_61, zr66_63, zr66_64, zr66_67, zr66_70, zr66_72, zr66_73, zr66_76, zr66_77, zr66_80, zr66_82, zr66_85, zr66_86, zr66_87, zr66_88, zr66_89, zr66_90, zr66_93, zr66_94, zr66_95, zr66_96, zr66_99, zr66_100, zr66_103, zr66_105, zr66_107, zr66_109, zr66_112, zr66_115, zr66_118, zr66_119, zq_kill_int, zq_kill_ref, zq_kill_ret, zq_kill_null, zq_kill_long, zq_rf_some, zq_rf_none, true_and, and_true, true_implies, not_true_eq_false, not_false_eq_true, false_implies, Bool.true_eq_false, Bool.false_eq_true, nI_1, zb_i0, zb_i1, zb_i2, Option.toList_some, Option.toList_none, List.cons_append, List.nil_append, true_or, or_true, implies_true, zb_it, zb_if, zb_10, zb_00, zb_n5, zb_n2, zb_m1, zb_m3, zb_m9, or_true, true_or, or_false, false_or, q0]
    rfl
  | succ m ih =>
    intro hm e he D C M hcor hD Q
    obtain ⟨e, rfl⟩ : ∃ e', e = e' + 1 := ⟨e - 1, by omega⟩
    rw [show e + 1 + 5 = e + 6 from rfl]
    obtain ⟨⟨w1, w2, w3, w4, w5, w6⟩, -, -⟩ := hcor.facts hc
    have q0 : ((0 : Int32) < nI (m + 1)) = True := eq_true (nI_lt (a := 0) (by omega) (by omega))
    have op := fun Q => k_Search_open7 (N := N) (ca := ca) (cb := cb) (d := e + 1) (hl := hl) (Q := Q) hc hcor
    rw [show e + 1 + 4 = e + 5 from rfl] at op
    by_cases hm0 : m = 0
    · subst hm0
      obtain ⟨z1, z2⟩ := zb_setN (p := okm W P 7 M) w1
      have z3 : 2 ^ W ≤ 128 := by
        have := Nat.pow_le_pow_right (n := 2) (by omega) w1
        omega
      have q1 : (nI (0 + 1) = 1) = True := eq_true rfl
      have bc := fun Q => k_bitCount (S := zq_SG N) (hi := C) (hl := hl) (hr := zq_HR ca cb c) (d := e + 5) (Q := Q) (s := zb_num (okm W P 7 M) W) (by omega)
      have hpc : pcn (zb_num (okm W P 7 M) W) < 2 ^ 31 := by unfold pcn; omega
      simp only [zr66_0, zr66_1, zr66_4, zr66_5, zr66_6, zr66_7, zr66_10, zr66_11, zr66_12, zr66_13, zr66_16, zr66_17, zr66_20, zr66_21, zr66_22, zr66_23, zr66_24, zr66_25, zr66_29, zr66_30, zr66_33, zr66_36, zr66_39, zr66_40, zr66_42, zr66_43, zr66_44, zr66_45, zr66_48, zr66_51, zr66_52, zr66_55, zr66_58, zr66_60, zr66_61, zr66_63, zr66_64, zr66_67, zr66_70, zr66_72, zr66_73, zr66_76, zr66_77, zr66_80, zr66_82, zr66_85, zr66_86, zr66_87, zr66_88, zr66_89, zr66_90, zr66_93, zr66_94, zr66_95, zr66_96, zr66_99, zr66_100, zr66_103, zr66_105, zr66_107, zr66_109, zr66_112, zr66_115, zr66_118, zr66_119, zs_q0 N, zq_kill_int, zq_kill_ref, zq_kill_ret, zq_kill_null, zq_kill_long, zq_rf_some, zq_rf_none, true_and, and_true, true_implies, not_true_eq_false, not_false_eq_true, false_implies, Bool.true_eq_false, Bool.false_eq_true, nI_1, zb_i0, zb_i1, zb_i2, Option.toList_some, Option.toList_none, List.cons_append, List.nil_append, true_or, or_true, implies_true, zb_it, zb_if, zb_10, zb_00, zb_n5, zb_n2, zb_m1, zb_m3, zb_m9, or_true, true_or, or_false, false_or, q0, q1, op, z1, bc, nI_l hpc]
      rw [pc_num w1]
      rfl
    · have q1 : (nI (m + 1) = 1) = False := by
        rw [show (1 : Int32) = nI 1 from rfl, zb_eq (by omega) (by omega)]
        exact eq_false (by omega)
      obtain ⟨⟨v6, v7⟩, -, loop⟩ := zq_loopE (β := Option Value → zq_G → Prop) (n := W) (I := fun _ (_ : Value × Value) => True) (f := fun Q k (v : Value × Value) => zq_P (e + 6) 66 27 [.ref 54, .int (nI (m + 1)), .int (zb_set (okm W P 7 M) W), .long (lN (fo (fun w s => if okm W P 7 M w = true then s + cnp (okm W P 7) W m (zm_go M w) else s) k 0)), .retAddr 0, .int (nI k), v.1, v.2] [] (zq_SG N, C, hl, zq_HR ca cb c) Q) (fun k hk v _ => by
        obtain ⟨v6, v7⟩ := v
        have h3 : (nI k < nI W) = True := eq_true ((nI_ltI (by omega) (by omega)).mpr hk)
        have x1 : zq_xS (nI k) 7 := zb_x (by omega) (by omega)
        have x2 : (nI k).toNatClampNeg = k := zb_cl (by omega)
        cases hb : okm W P 7 M k with
        | false =>
          refine ⟨(v6, v7), trivial, fun Q => ?_⟩
          dsimp only
          rw [zr66_27]
          simp only [zr66_0, zr66_1, zr66_4, zr66_5, zr66_6, zr66_7, zr66_10, zr66_11, zr66_12, zr66_13, zr66_16, zr66_17, zr66_20, zr66_21, zr66_22, zr66_23, zr66_24, zr66_25, zr66_29, zr66_30, zr66_33, zr66_36, zr66_39, zr66_40, zr66_42, zr66_43, zr66_44, zr66_45, zr66_48, zr66_51, zr66_52, zr66_55, zr66_58, zr66_60, zr66_61, zr66_63, zr66_64, zr66_67, zr66_70, zr66_72, zr66_73, zr66_76, zr66_77, zr66_80, zr66_82, zr66_85, zr66_86, zr66_87, zr66_88, zr66_89, zr66_90, zr66_93, zr66_94, zr66_95, zr66_96, zr66_99, zr66_100, zr66_103, zr66_105, zr66_107, zr66_109, zr66_112, zr66_115, zr66_118, zr66_119, zs_q0 N, zh_q0 ca cb c, hct.1, zq_kill_int, zq_kill_ref, zq_kill_ret, zq_kill_null, zq_kill_long, zq_rf_some, zq_rf_none, true_and, and_true, true_implies, not_true_eq_false, not_false_eq_true, false_implies, Bool.true_eq_false, Bool.false_eq_true, nI_1, zb_i0, zb_i1, zb_i2, Option.toList_some, Option.toList_none, List.cons_append, List.nil_append, true_or, or_true, implies_true, zb_it, zb_if, zb_10, zb_00, zb_n5, zb_n2, zb_m1, zb_m3, zb_m9, or_true, true_or, or_false, false_or, w3, h3, zb_bit w1 hk, hb, fo_s]
          simp
        | true =>
          have hcor2 := hcor.go hc hk (by omega)
          have ih2 := fun Q => ih (by omega) e (by omega) (D + 1) _ _ hcor2 (by omega) Q
          have go := fun Q => k_Course_goOn (d := e + 4) (hi := C) (hl := hl) (Q := Q) hct ho (by omega) w3 w1 hk
          have bk := fun Q => k_Course_goBack (d := e + 4) (hi := zc_go C c 55 k) (hl := hl) (Q := Q) (l := C 56 k) (a := C 55 3) hct ho (by omega) (W := W) (by rw [zc_go_o (by omega)]; exact w3) w1 hk
          rw [show e + 4 + 1 = e + 5 from rfl] at go bk
          refine ⟨(.int (C 56 k), .int (C 55 3)), trivial, fun Q => ?_⟩
          dsimp only
          rw [zr66_27]
          simp only [zr66_0, zr66_1, zr66_4, zr66_5, zr66_6, zr66_7, zr66_10, zr66_11, zr66_12, zr66_13, zr66_16, zr66_17, zr66_20, zr66_21, zr66_22, zr66_23, zr66_24, zr66_25, zr66_29, zr66_30, zr66_33, zr66_36, zr66_39, zr66_40, zr66_42, zr66_43, zr66_44, zr66_45, zr66_48, zr66_51, zr66_52, zr66_55, zr66_58, zr66_60, zr66_61, zr66_63, zr66_64, zr66_67, zr66_70, zr66_72, zr66_73, zr66_76, zr66_77, zr66_80, zr66_82, zr66_85, zr66_86, zr66_87, zr66_88, zr66_89, zr66_90, zr66_93, zr66_94, zr66_95, zr66_96, zr66_99, zr66_100, zr66_103, zr66_105, zr66_107, zr66_109, zr66_112, zr66_115, zr66_118, zr66_119, zs_q0 N, zh_q0 ca cb c, hct.1, zq_kill_int, zq_kill_ref, zq_kill_ret, zq_kill_null, zq_kill_long, zq_rf_some, zq_rf_none, true_and, and_true, true_implies, not_true_eq_false, not_false_eq_true, false_implies, Bool.true_eq_false, Bool.false_eq_true, nI_1, zb_i0, zb_i1, zb_i2, Option.toList_some, Option.toList_none, List.cons_append, List.nil_append, true_or, or_true, implies_true, zb_it, zb_if, zb_10, zb_00, zb_n5, zb_n2, zb_m1, zb_m3, zb_m9, or_true, true_or, or_false, false_or, w3, h3, x1, x2, zb_bit w1 hk, hb, fo_s, if_true, go, nI_pred, ih2, bk, zc_bk_go hc, lN_add]) (.retAddr 0, .retAddr 0) trivial
      have l0 : (0 : Int64) = lN 0 := rfl
      have fW : (nI W < nI W) = False := eq_false (nI_nlt (Nat.le_refl _) (by omega))
      have lp : zq_P (e + 6) 66 27 [.ref 54, .int (nI (m + 1)), .int (zb_set (okm W P 7 M) W), .long 0, .retAddr 0, .int 0, .retAddr 0, .retAddr 0] [] (zq_SG N, C, hl, zq_HR ca cb c) Q = _ := loop Q
      simp only [zr66_0, zr66_1, zr66_4, zr66_5, zr66_6, zr66_7, zr66_10, zr66_11, zr66_12, zr66_13, zr66_16, zr66_17, zr66_20, zr66_21, zr66_22, zr66_23, zr66_24, zr66_25, zr66_29, zr66_30, zr66_33, zr66_36, zr66_39, zr66_40, zr66_42, zr66_43, zr66_44, zr66_45, zr66_48, zr66_51, zr66_52, zr66_55, zr66_58, zr66_60, zr66_61, zr66_63, zr66_64, zr66_67, zr66_70, zr66_72, zr66_73, zr66_76, zr66_77, zr66_80, zr66_82, zr66_85, zr66_86, zr66_87, zr66_88, zr66_89, zr66_90, zr66_93, zr66_94, zr66_95, zr66_96, zr66_99, zr66_100, zr66_103, zr66_105, zr66_107, zr66_109, zr66_112, zr66_115, zr66_118, zr66_119, zs_q0 N, zq_kill_int, zq_kill_ref, zq_kill_ret, zq_kill_null, zq_kill_long, zq_rf_some, zq_rf_none, true_and, and_true, true_implies, not_true_eq_false, not_false_eq_true, false_implies, Bool.true_eq_false, Bool.false_eq_true, nI_1, zb_i0, zb_i1, zb_i2, Option.toList_some, Option.toList_none, List.cons_append, List.nil_append, true_or, or_true, implies_true, zb_it, zb_if, zb_10, zb_00, zb_n5, zb_n2, zb_m1, zb_m3, zb_m9, or_true, true_or, or_false, false_or, q0, q1, op]
      refine Eq.trans lp ?_
      rw [zr66_27]
      simp only [zr66_0, zr66_1, zr66_4, zr66_5, zr66_6, zr66_7, zr66_10, zr66_11, zr66_12, zr66_13, zr66_16, zr66_17, zr66_20, zr66_21, zr66_22, zr66_23, zr66_24, zr66_25, zr66_29, zr66_30, zr66_33, zr66_36, zr66_39, zr66_40, zr66_42, zr66_43, zr66_44, zr66_45, zr66_48, zr66_51, zr66_52, zr66_55, zr66_58, zr66_60, zr66_61, zr66_63, zr66_64, zr66_67, zr66_70, zr66_72, zr66_73, zr66_76, zr66_77, zr66_80, zr66_82, zr66_85, zr66_86, zr66_87, zr66_88, zr66_89, zr66_90, zr66_93, zr66_94, zr66_95, zr66_96, zr66_99, zr66_100, zr66_103, zr66_105, zr66_107, zr66_109, zr66_112, zr66_115, zr66_118, zr66_119, zs_q0 N, zh_q0 ca cb c, hct.1, zq_kill_int, zq_kill_ref, zq_kill_ret, zq_kill_null, zq_kill_long, zq_rf_some, zq_rf_none, true_and, and_true, true_implies, not_true_eq_false, not_false_eq_true, false_implies, Bool.true_eq_false, Bool.false_eq_true, nI_1, zb_i0, zb_i1, zb_i2, Option.toList_some, Option.toList_none, List.cons_append, List.nil_append, true_or, or_true, implies_true, zb_it, zb_if, zb_10, zb_00, zb_n5, zb_n2, zb_m1, zb_m3, zb_m9, or_true, true_or, or_false, false_or, w3, fW]
      rfl
theorem cor_start0 (h : Sim hi hl ca cb cs W P D) (h1 : cfr hi C) (h2 : C 55 2 = hi 32 2 ∧ C 55 3 = hi 32 3 ∧ C 55 4 = 0 ∧ C 55 5 = hi 32 5) (h3 : ∀ j, j < 7 → C 56 j = hi 33 j ∧ C 57 j = hi 34 j) : Cor ca W P D C C := by
  have := Cor.start h h1 h2 h3
  have e : C = jn C hi := jn_of fun a ha => h1 a (by omega)
  unfold Cor at this ⊢
  rw [← e] at this
  rw [jn_self]
  exact this
theorem Mok_cor (h : Cor c W P D C C) : Mok W P (fun w => (zm_tr C w).toNatClampNeg) C := by
  have := h.1
  rw [jn_self] at this
  exact sm_Mok this
end Z51
section Z51b
variable {N : Nat} {x : Int32}
theorem nI_06 (hx : ¬ x < 0 ∧ ¬ 6 < x) : ∃ n, n ≤ 6 ∧ x = nI n := nI_of2 (x := x) (M := 6) (n := 6) (by decide) hx.1 (Int32.not_lt.mp hx.2)
theorem p_plans : zq_pair N 63 169 [.ref 0, .int x] [.ref 60, .int x] := by
  intro hi hl ca cb cs W P D h
  have hca := h.court
  have hc := zq_Ct_ok (N := N) (ca := ca) (cb := cb) (cs := cs) h.court
  have hct := h.2.2.2.2.2.1
  obtain ⟨⟨w1, w2, w3, w4, w5, w6, -⟩, -, wa⟩ := id hct
  by_cases hx : ¬ x < 0 ∧ ¬ 6 < x
  · have hin : zm_in x 0 6 = true := by unfold zm_in; rw [decide_eq_true_eq]; exact hx
    by_cases hW0 : W = 0
    · have e0 : (nI W = 0) = True := eq_true (by rw [hW0]; rfl)
      refine ⟨.int (-4), hi, hl, ca, cb, cs, hi, hl, W, P, D, fun Q => ?_, fun Q => ?_, h⟩
      · simp only [zr63_0, zr63_1, zr63_4, zr63_5, zr63_7, zr63_10, zr63_11, zr63_12, zr63_13, zr63_16, zr63_19, zr63_22, zr63_24, zr63_25, zr63_26, zr63_29, zr63_30, zr63_33, zr63_34, zr63_37, zr63_38, zr63_41, zr63_42, zr63_43, zr63_46, zr63_47, zr63_50, zr63_51, zr63_54, zr63_55, zs_x0 N, zh_x0 ca cb cs, hc.1, zq_kill_int, zq_kill_ref, zq_kill_ret, zq_kill_null, zq_kill_long, zq_rf_some, zq_rf_none, true_and, and_true, true_implies, not_true_eq_false, not_false_eq_true, false_implies, Bool.true_eq_false, Bool.false_eq_true, nI_1, zb_i0, zb_i1, zb_i2, Option.toList_some, Option.toList_none, List.cons_append, List.nil_append, true_or, or_true, implies_true, zb_it, zb_if, zb_10, zb_00, zb_n5, zb_n2, zb_m1, zb_m3, zb_m9, or_true, true_or, or_false, false_or, hx, w3, e0]
      · simp only [zr169_0, zr169_1, zr169_2, zr169_4, zr169_7, zr169_10, zr169_11, zr169_12, zr169_13, zr169_16, zr169_19, zr169_21, zr169_22, zr169_23, zr169_24, zr169_27, zr169_30, zr169_31, zr169_32, zr169_35, zr169_36, zr169_37, zr169_40, zs_m0 N, zs_m1 N, zs_m2 N, zh_m0 ca cb cs, zq_kill_int, zq_kill_ref, zq_kill_ret, zq_kill_null, zq_kill_long, zq_rf_some, zq_rf_none, true_and, and_true, true_implies, not_true_eq_false, not_false_eq_true, false_implies, Bool.true_eq_false, Bool.false_eq_true, nI_1, zb_i0, zb_i1, zb_i2, Option.toList_some, Option.toList_none, List.cons_append, List.nil_append, true_or, or_true, implies_true, zb_it, zb_if, zb_10, zb_00, zb_n5, zb_n2, zb_m1, zb_m3, zb_m9, or_true, true_or, or_false, false_or, k_M_in, hin, w4, e0]
    · have e0 : (nI W = 0) = False := eq_false (nI_ne0 (by omega) (by omega))
      obtain ⟨n, hn, rfl⟩ := nI_06 hx
      have d0 := h.2.2.2.2.2.2.1.1
      obtain ⟨C0, b1, b2, b3, b4, -⟩ := k_Search_begin (N := N) (d := 56) (cb := cb) (cs := cs) (hl := hl) (n := n) hca w3 w1 hn
      have hcor := cor_start0 h b2 b3 b4
      have cp := fun Q => k_Search_countPlans (N := N) (ca := ca) (cb := cb) (hl := hl) (c := ca) hca n hn 52 (by omega) D C0 C0 hcor (by omega) Q
      rw [show 52 + 5 = 57 from rfl] at cp
      have hle := Nat.le_trans (cnp_le (ok := okm W P 7) (W := W) n C0) (zw_le6 W w1 n hn)
      obtain ⟨H', s1, r1, sp⟩ := k_M_setPlans (N := N) (ca := ca) (cb := cb) (cs := ca) (d := 52) (hl := tlc hl (cnp (okm W P 7) W n C0) 1) (may := 7) hn (Mok_cor hcor)
      have r2 := r1.1
      rw [ex_1] at r2
      dsimp only at r2
      rw [Nat.zero_add] at r2
      rw [show 52 + 5 = 57 from rfl] at sp
      generalize cnp (okm W P 7) W n C0 = cn at *
      have tl := fun Q => k_EF_tell (N := N) (ca := ca) (cb := cb) (cs := ca) (d := 56) (hi := C0) (hl := hl) (Q := Q) (u := cn) (l := 1) (by omega) (by omega) (by omega)
      have pt := fun Q => k_M_part (N := N) (ca := ca) (cb := cb) (cs := ca) (d := 57) (hi := H') (hl := tlc hl cn 1) (Q := Q) (u := cn) (l := 1) (by omega) (by omega) (by omega)
      have l1 : (1 : Int64) = lN 1 := rfl
      have c10 : C0 60 10 = nI W := by rw [b2 _ (by omega)]; exact w4
      refine ⟨.int 1, C0, tlc hl cn 1, ca, cb, ca, H', tlm (tlc hl cn 1) cn 1, W, P, D, fun Q => ?_, fun Q => ?_, ?_⟩
      · simp only [zr63_0, zr63_1, zr63_4, zr63_5, zr63_7, zr63_10, zr63_11, zr63_12, zr63_13, zr63_16, zr63_19, zr63_22, zr63_24, zr63_25, zr63_26, zr63_29, zr63_30, zr63_33, zr63_34, zr63_37, zr63_38, zr63_41, zr63_42, zr63_43, zr63_46, zr63_47, zr63_50, zr63_51, zr63_54, zr63_55, zs_x0 N, zs_q0 N, zh_x0 ca cb cs, zh_x0 ca cb ca, hc.1, zq_kill_int, zq_kill_ref, zq_kill_ret, zq_kill_null, zq_kill_long, zq_rf_some, zq_rf_none, true_and, and_true, true_implies, not_true_eq_false, not_false_eq_true, false_implies, Bool.true_eq_false, Bool.false_eq_true, nI_1, zb_i0, zb_i1, zb_i2, Option.toList_some, Option.toList_none, List.cons_append, List.nil_append, true_or, or_true, implies_true, zb_it, zb_if, zb_10, zb_00, zb_n5, zb_n2, zb_m1, zb_m3, zb_m9, or_true, true_or, or_false, false_or, hx, w3, e0, b1, cp, l1, tl]
      · simp only [zr169_0, zr169_1, zr169_2, zr169_4, zr169_7, zr169_10, zr169_11, zr169_12, zr169_13, zr169_16, zr169_19, zr169_21, zr169_22, zr169_23, zr169_24, zr169_27, zr169_30, zr169_31, zr169_32, zr169_35, zr169_36, zr169_37, zr169_40, zr170_0, zr170_2, zs_m0 N, zs_m1 N, zs_m2 N, zh_m0 ca cb ca, zq_kill_int, zq_kill_ref, zq_kill_ret, zq_kill_null, zq_kill_long, zq_rf_some, zq_rf_none, true_and, and_true, true_implies, not_true_eq_false, not_false_eq_true, false_implies, Bool.true_eq_false, Bool.false_eq_true, nI_1, zb_i0, zb_i1, zb_i2, Option.toList_some, Option.toList_none, List.cons_append, List.nil_append, true_or, or_true, implies_true, zb_it, zb_if, zb_10, zb_00, zb_n5, zb_n2, zb_m1, zb_m3, zb_m9, or_true, true_or, or_false, false_or, k_M_in, hin, c10, e0, sp, r2, nI_l (show cn < 2 ^ 31 by omega), l1, pt]
      · refine h.search (C2 := C0) (fun a ha _ => b2 a (by omega)) (by rw [b2 0 (by omega)]) ?_ (fun a ha => s1.1 a (by omega) (by omega)) (fun a a1 a2 => s1.1 a (by omega) (by omega)) (fun f _ f1 => s1.2 f (by omega)) tl_both.1 tl_both.2
        rw [s1.2 2 (by omega), b2 0 (by omega), b2 60 (by omega)]
        exact h.2.2.1.1
  · refine ⟨.int (-1), hi, hl, ca, cb, cs, hi, hl, W, P, D, fun Q => ?_, fun Q => ?_, h⟩
    · simp only [zr63_0, zr63_1, zr63_4, zr63_5, zr63_7, zr63_10, zr63_11, zr63_12, zr63_13, zr63_16, zr63_19, zr63_22, zr63_24, zr63_25, zr63_26, zr63_29, zr63_30, zr63_33, zr63_34, zr63_37, zr63_38, zr63_41, zr63_42, zr63_43, zr63_46, zr63_47, zr63_50, zr63_51, zr63_54, zr63_55, zs_x0 N, zh_x0 ca cb cs, zq_kill_int, zq_kill_ref, zq_kill_ret, zq_kill_null, zq_kill_long, zq_rf_some, zq_rf_none, true_and, and_true, true_implies, not_true_eq_false, not_false_eq_true, false_implies, Bool.true_eq_false, Bool.false_eq_true, nI_1, zb_i0, zb_i1, zb_i2, Option.toList_some, Option.toList_none, List.cons_append, List.nil_append, true_or, or_true, implies_true, zb_it, zb_if, zb_10, zb_00, zb_n5, zb_n2, zb_m1, zb_m3, zb_m9, or_true, true_or, or_false, false_or]
      by_cases q1 : x < 0
      · simp [q1]
      · by_cases q2 : 6 < x
        · simp [q1, q2]
        · exact absurd ⟨q1, q2⟩ hx
    · simp only [zr169_0, zr169_1, zr169_2, zr169_4, zr169_7, zr169_10, zr169_11, zr169_12, zr169_13, zr169_16, zr169_19, zr169_21, zr169_22, zr169_23, zr169_24, zr169_27, zr169_30, zr169_31, zr169_32, zr169_35, zr169_36, zr169_37, zr169_40, zs_m0 N, zs_m1 N, zs_m2 N, zh_m0 ca cb cs, zq_kill_int, zq_kill_ref, zq_kill_ret, zq_kill_null, zq_kill_long, zq_rf_some, zq_rf_none, true_and, and_true, true_implies, not_true_eq_false, not_false_eq_true, false_implies, Bool.true_eq_false, Bool.false_eq_true, nI_1, zb_i0, zb_i1, zb_i2, Option.toList_some, Option.toList_none, List.cons_append, List.nil_append, true_or, or_true, implies_true, zb_it, zb_if, zb_10, zb_00, zb_n5, zb_n2, zb_m1, zb_m3, zb_m9, or_true, true_or, or_false, false_or, k_M_in, zm_in, hx, decide_false]
end Z51b
