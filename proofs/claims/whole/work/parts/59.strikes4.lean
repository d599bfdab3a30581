/-! strikes: all -/
theorem fo_min_comm {p : Nat → Bool} {f : Nat → Nat} (a b : Nat) : ∀ v, fo (fun w x => if p w = true then min x (f w) else x) v (min a b) = min (fo (fun w x => if p w = true then min x (f w) else x) v a) b := by
  intro v
  induction v with
  | zero => rfl
  | succ v ih =>
    simp only [fo_s]
    rw [ih]
    split <;> omega
theorem fo_min_add {p : Nat → Bool} {f : Nat → Nat} (s a : Nat) : ∀ v, fo (fun w x => if p w = true then min x (s + f w) else x) v (s + a) = s + fo (fun w x => if p w = true then min x (f w) else x) v a := by
  intro v
  induction v with
  | zero => rfl
  | succ v ih =>
    simp only [fo_s]
    rw [ih]
    split <;> omega
theorem fo_min_fin {p : Nat → Bool} {f : Nat → Nat} (s a W : Nat) (h : s + a ≤ 1048576) : min (fo (fun w x => if p w = true then min x (s + f w) else x) W 1048576) (s + a) = s + fo (fun w x => if p w = true then min x (f w) else x) W a := by
  rw [← fo_min_comm, ← fo_min_add, Nat.min_eq_right h]
def omx (o : Option Nat) (y : Nat) : Option Nat := some (match o with
  | none => y
  | some x => max x y)
def wo : Option Nat → Int32
  | none => -1
  | some x => nI x
theorem fo_omx {p : Nat → Bool} {h : Nat → Nat} (s : Nat) : ∀ v, ((∃ w, w < v ∧ p w = true) → fo (fun w o => if p w = true then omx o (s + h w) else o) v none = some (s + fo (fun w x => if p w = true then max x (h w) else x) v 0)) ∧ ((¬ ∃ w, w < v ∧ p w = true) → fo (fun w o => if p w = true then omx o (s + h w) else o) v none = none ∧ fo (fun w x => if p w = true then max x (h w) else x) v 0 = 0) := by
  intro v
  induction v with
  | zero => exact ⟨fun ⟨w, hw, _⟩ => absurd hw (Nat.not_lt_zero _), fun _ => ⟨rfl, rfl⟩⟩
  | succ v ih =>
    obtain ⟨i1, i2⟩ := ih
    simp only [fo_s]
    by_cases e : p v = true
    · rw [if_pos e, if_pos e]
      refine ⟨fun _ => ?_, fun h => absurd ⟨v, by omega, e⟩ h⟩
      by_cases q : ∃ w, w < v ∧ p w = true
      · rw [i1 q]
        show some (max (s + _) (s + h v)) = _
        congr 1
        omega
      · rw [(i2 q).1, (i2 q).2]
        show some (s + h v) = _
        congr 1
    · rw [if_neg e, if_neg e]
      refine ⟨fun ⟨w, hw, hp⟩ => ?_, fun h => ?_⟩
      · have : w ≠ v := fun q => e (by rw [← q]; exact hp)
        exact i1 ⟨w, by omega, hp⟩
      · exact i2 fun ⟨w, hw, hp⟩ => h ⟨w, by omega, hp⟩
theorem bit_ex {L W : Nat} (h : L < 2 ^ W) (h0 : ¬ L = 0) : ∃ w, w < W ∧ L.testBit w = true := by
  refine Classical.byContradiction fun q => h0 (Nat.eq_of_testBit_eq fun i => ?_)
  rw [Nat.zero_testBit]
  by_cases hi : i < W
  · cases e : L.testBit i with
    | false => rfl
    | true => exact absurd ⟨i, hi, e⟩ q
  · exact Nat.testBit_lt_two_pow (Nat.lt_of_lt_of_le h (Nat.pow_le_pow_right (by omega) (by omega)))
theorem zl_full : ∀ W, W ≤ 7 → (1 : Int32) <<< (nI W &&& 31) - 1 = nI (2 ^ W - 1) := by decide
theorem zl_p128 : ∀ W, W ≤ 7 → 2 ^ W ≤ 128 := by decide
section Z59
variable {N ca cb cs d W P n : Nat} {M H : zq_I} {hl : zq_J} {Q : Option Value → zq_G → Prop} {t : Nat → Nat} {b0 : Int32}
theorem k_M_strikes_E (hn : n ≤ 3) (hW : W ≤ 7) : ∀ j i, i + j = n → ∀ (M : zq_I) (L s : Nat) (H : zq_I) (v6 v7 : Int32), Mok W P t M → kfr M H → L < 2 ^ W → M 60 26 - b0 = nI s → s ≤ 20 * i → H 85 (2 * i) = -1 → H 86 (2 * i) = -1 →
    ∃ H', kfr M H' ∧ ufr (2 * i) H H' ∧ ∀ Q, zq_P (d + 6) 189 63 (stL n b0 L (2 * i) v6 v7) [] (zq_SG N, H, hl, zq_HR ca cb cs) Q = zq_P (d + 6) 189 251 (stL n b0 L (2 * i) (nI (s + vsf (cnk W P) W t j L M)) 1) [] (zq_SG N, H', hl, zq_HR ca cb cs) Q := by
  have p128 := zl_p128 W hW
  intro j
  induction j with
  | zero =>
    intro i hi M L s H v6 v7 hM hk hL hs hsi h85 h86
    have hin : i = n := by omega
    subst hin
    have q0 : (nI (2 * i) < 0) = False := eq_false (nI_pos (by omega))
    have e26 : H 60 26 - b0 = nI s := by rw [hk 60 (by omega) (by omega) (by omega)]; exact hs
    refine ⟨H, hk, ufr_rfl _ _, fun Q => ?_⟩
    rw [zr189_63]
    simp only [zr189_0, zr189_1, zr189_2, zr189_3, zr189_6, zr189_9, zr189_10, zr189_11, zr189_12, zr189_15, zr189_18, zr189_20, zr189_21, zr189_22, zr189_25, zr189_26, zr189_27, zr189_28, zr189_31, zr189_32, zr189_33, zr189_34, zr189_35, zr189_36, zr189_38, zr189_39, zr189_40, zr189_41, zr189_43, zr189_44, zr189_46, zr189_47, zr189_50, zr189_51, zr189_52, zr189_53, zr189_54, zr189_57, zr189_58, zr189_59, zr189_60, zr189_61, zr189_65, zr189_68, zr189_70, zr189_72, zr189_75, zr189_76, zr189_79, zr189_80, zr189_81, zr189_83, zr189_84, zr189_86, zr189_89, zr189_90, zr189_93, zr189_95, zr189_96, zr189_98, zr189_99, zr189_102, zr189_104, zr189_105, zr189_106, zr189_107, zr189_108, zr189_111, zr189_112, zr189_113, zr189_116, zr189_118, zr189_119, zr189_120, zr189_123, zr189_126, zr189_127, zr189_130, zr189_131, zr189_133, zr189_134, zr189_137, zr189_139, zr189_140, zr189_142, zr189_144, zr189_147, zr189_149, zr189_150, zr189_151, zr189_154, zr189_155, zr189_156, zr189_157, zr189_160, zr189_162, zr189_163, zr189_164, zr189_165, zr189_166, zr189_167, zr189_168, zr189_171, zr189_172, zr189_173, zr189_176, zr189_178, zr189_180, zr189_181, zr189_184, zr189_185, zr189_188, zr189_190, zr189_191, zr189_192, zr189_195, zr189_198, zr189_199, zr189_200, zr189_203, zr189_205, zr189_206, zr189_209, zr189_212, zr189_213, zr189_216, zr189_219, zr189_220, zr189_223, zr189_225, zr189_226, zr189_227, zr189_228, zr189_231, zr189_233, zr189_235, zr189_236, zr189_237, zr189_240, zr189_241, zr189_244, zr189_247, zr189_248, zr189_254, zr189_256, zr189_259, zr189_260, zr189_263, zr189_265, zr189_267, zr189_268, zr189_269, zr189_272, zr189_273, zr189_276, zr189_278, zr189_279, zr189_281, zr189_284, zr189_287, zr189_289, zr189_290, zr189_293, zr189_295, zr189_296, zr189_299, zr189_301, zr189_304, zr189_305, zr189_308, zr189_310, zr189_311, zr189_312, zr189_314, zr189_315, zr189_316, zr189_319, zr189_320, zr189_321, zr189_324, zr189_326, zr189_327, zr189_328, zr189_331, zr189_334, zr189_335, zr189_336, zr189_339, zr189_341, zr189_342, zr189_343, zr189_346, zr189_347, zr189_348, zr189_349, zr189_352, zr189_353, zr189_354, zr189_357, zr189_359, zr189_361, zr189_362, zr189_365, zr189_368, zr189_370, zs_m0 N, zs_m1 N, zs_m2 N, zh_m0 ca cb cs, zq_kill_int, zq_kill_ref, zq_kill_ret, zq_kill_null, zq_kill_long, zq_rf_some, zq_rf_none, true_and, and_true, true_implies, not_true_eq_false, not_false_eq_true, false_implies, Bool.true_eq_false, Bool.false_eq_true, nI_1, zb_i0, zb_i1, zb_i2, Option.toList_some, Option.toList_none, List.cons_append, List.nil_append, true_or, or_true, implies_true, zb_it, zb_if, zb_10, zb_00, zb_n5, zb_n2, zb_m1, zb_m3, zb_m9, or_true, true_or, or_false, false_or, q0, e26]
    rfl
  | succ j ih =>
    intro i hi M L s H v6 v7 hM hk hL hs hsi h85 h86
    have hvs := fun L M => vsf_le (ok := cnk W P) (W := W) (t := t) j L M
    -- the usher's level
    have odd : ∀ L, L < 2 ^ W → ∀ H v6 v7, kfr M H → H 85 (2 * i + 1) = -1 → H 86 (2 * i + 1) = 1048576 → ∃ H', kfr M H' ∧ ufr (2 * i + 1) H H' ∧ ∀ Q, zq_P (d + 6) 189 63 (stL n b0 L (2 * i + 1) v6 v7) [] (zq_SG N, H, hl, zq_HR ca cb cs) Q = zq_P (d + 6) 189 251 (stL n b0 L (2 * i + 1) (nI (s + vdf (cnk W P) W t (vsf (cnk W P) W t j) L M)) 1) [] (zq_SG N, H', hl, zq_HR ca cb cs) Q := by
      intro L hL
      have hod := zl_od i (by omega)
      have hev : nI (2 * i + 1 + 1) - nI (2 * i + 1 + 1) / 2 * 2 = 0 := zl_ev (i + 1) (by omega)
      have hvr := hvs L (zm_re M)
      have hfin := fo_min_fin (p := fun w => cano M W P w && L.testBit w) (f := fun w => t w + vsf (cnk W P) W t j L (zm_go M w)) s (20 + vsf (cnk W P) W t j L (zm_re M)) W (by omega)
      have hvd : s + vdf (cnk W P) W t (vsf (cnk W P) W t j) L M = min (fo (fun w x => if (cano M W P w && L.testBit w) = true then min x (s + (t w + vsf (cnk W P) W t j L (zm_go M w))) else x) W 1048576) (s + (20 + vsf (cnk W P) W t j L (zm_re M))) := hfin.symm
      rw [hvd]
      generalize hg : (fun w x => if (cano M W P w && L.testBit w) = true then min x (s + (t w + vsf (cnk W P) W t j L (zm_go M w))) else x) = g
      have hgo : ∀ w b, (cano M W P w && L.testBit w) = false → g w b = b := fun w b e => by rw [← hg]; exact if_neg (by rw [e]; decide)
      have hgy : ∀ w b, (cano M W P w && L.testBit w) = true → g w b = min b (s + (t w + vsf (cnk W P) W t j L (zm_go M w))) := fun w b e => by rw [← hg]; exact if_pos e
      have hA : ∀ v, fo g v 1048576 ≤ 1048576 := fun v => by rw [← hg]; exact fo_min_le v
      have inner : ∀ u, u ≤ W → ∀ H v6 v7, kfr M H → H 85 (2 * i + 1) = nI (W - u) - 1 → H 86 (2 * i + 1) = nI (fo g (W - u) 1048576) → ∃ H', kfr M H' ∧ ufr (2 * i + 1) H H' ∧ ∀ Q, zq_P (d + 6) 189 63 (stL n b0 L (2 * i + 1) v6 v7) [] (zq_SG N, H, hl, zq_HR ca cb cs) Q = zq_P (d + 6) 189 251 (stL n b0 L (2 * i + 1) (nI (min (fo g W 1048576) (s + (20 + vsf (cnk W P) W t j L (zm_re M))))) 1) [] (zq_SG N, H', hl, zq_HR ca cb cs) Q := by
        intro u
        induction u using Nat.strongRecOn with
        | ind u ihu =>
          intro hu H v6 v7 hk h85 h86
          obtain ⟨⟨n1, n2⟩, n3, n4⟩ := nxw_spec (ok := fun w => cano M W P w && L.testBit w) u hu
          have hMH := kfr_Mok hk hM
          have nx := fun Q => k_M_nextO (N := N) (ca := ca) (cb := cb) (cs := cs) (d := d + 1) (hl := hl) (Q := Q) (lv := nI (2 * i + 1)) (v2 := .int (nI (W - u))) hMH (show L < 128 by omega) u hu
          rw [show d + 1 + 4 = d + 5 from rfl, kfr_cano hk] at nx
          have nc : ∀ Q, zq_P (d + 5) 190 0 [.ref 60, .int (nI (2 * i + 1)), .int (nI (W - u)), .int (nI L), .retAddr 0] [] (zq_SG N, H, hl, zq_HR ca cb cs) Q = Q (some (.int (nI (nxw (fun w => cano M W P w && L.testBit w) W u)))) (zq_SG N, H, hl, zq_HR ca cb cs) := fun Q => by
            simp only [zr190_0, zr190_1, zr190_3, zr190_4, zr190_5, zr190_6, zr190_11, zr190_12, zr190_15, zr190_18, zr190_19, zr190_21, zr190_24, zr190_27, zr190_30, zr190_33, zr190_35, zr190_36, zr190_39, zr190_42, zr190_43, zr190_46, zr190_47, zr190_50, zr190_51, zr190_52, zr190_55, zr190_57, zr190_60, zr190_61, zr190_64, zr190_67, zr190_68, zr190_70, zr190_73, zr190_76, zr190_77, zr190_79, zr190_82, zr190_85, zr190_88, zr190_91, zr190_93, zq_kill_int, zq_kill_ref, zq_kill_ret, zq_kill_null, zq_kill_long, zq_rf_some, zq_rf_none, true_and, and_true, true_implies, not_true_eq_false, not_false_eq_true, false_implies, Bool.true_eq_false, Bool.false_eq_true, nI_1, zb_i0, zb_i1, zb_i2, Option.toList_some, Option.toList_none, List.cons_append, List.nil_append, true_or, or_true, implies_true, zb_it, zb_if, zb_10, zb_00, zb_n5, zb_n2, zb_m1, zb_m3, zb_m9, or_true, true_or, or_false, false_or, hod]
            exact nx Q
          generalize hw0 : nxw (fun w => cano M W P w && L.testBit w) W u = w0 at n1 n2 n3 n4 nc
          have hskip : fo g w0 1048576 = fo g (W - u) 1048576 := fo_skip hgo n1 n3
          have hA0 := hA (W - u)
          by_cases hw : w0 < W
          · have hok := n4 hw
            obtain ⟨g1, g2⟩ := hM.2.2 w0 hw
            have hvg := hvs L (zm_go M w0)
            have b26 : zm_go M w0 60 26 - b0 = nI (s + t w0) := by
              rw [zm_go_60, if_neg (by omega), if_pos rfl, zb_subadd, hs, g1, nI_add]
            obtain ⟨H8, k8, u8, c8, w8, e8⟩ := st_odd (N := N) (ca := ca) (cb := cb) (cs := cs) (d := d) (hl := hl) (b0 := b0) (L := L) (v := W - u) (x := fo g (W - u) 1048576) (w0 := w0) (M1 := zm_go M w0) (val := s + t w0 + vsf (cnk W P) W t j L (zm_go M w0)) hn (show 2 * i + 1 + 1 ≤ 2 * n by omega) hod hev hW hM hk h85 h86 (by omega) n2 nc (Or.inl ⟨hw, rfl⟩) (by omega) (fun H4 v6 v7 k4 a b => by
              have := ih (i + 1) (by omega) (zm_go M w0) L (s + t w0) H4 v6 v7 (hM.go hw) k4 hL b26 (by omega) a b
              rwa [show 2 * (i + 1) = 2 * i + 1 + 1 by omega] at this)
            have hle : W - (W - (w0 + 1)) = w0 + 1 := by omega
            obtain ⟨H9, k9, u9, e9⟩ := ihu (W - (w0 + 1)) (by omega) (by omega) H8 (nI (s + t w0 + vsf (cnk W P) W t j L (zm_go M w0))) 1 k8 (by rw [hle, c8, nI_pred]) (by rw [hle, w8, fo_s, hgy w0 _ hok, hskip, Nat.add_assoc])
            exact ⟨H9, k9, ufr_tr u8 u9, fun Q => (e8 v6 v7 Q).trans (e9 Q)⟩
          · have hWe : w0 = W := by omega
            have b26 : zm_re M 60 26 - b0 = nI (s + 20) := by
              rw [zm_re_60, if_neg (by omega), if_neg (by omega), if_pos rfl, zb_subadd, hs]; exact nI_add s 20
            obtain ⟨H8, k8, u8, c8, w8, e8⟩ := st_odd (N := N) (ca := ca) (cb := cb) (cs := cs) (d := d) (hl := hl) (b0 := b0) (L := L) (v := W - u) (x := fo g (W - u) 1048576) (w0 := w0) (M1 := zm_re M) (val := s + 20 + vsf (cnk W P) W t j L (zm_re M)) hn (show 2 * i + 1 + 1 ≤ 2 * n by omega) hod hev hW hM hk h85 h86 (by omega) n2 nc (Or.inr ⟨hWe, rfl⟩) (by omega) (fun H4 v6 v7 k4 a b => by
              have := ih (i + 1) (by omega) (zm_re M) L (s + 20) H4 v6 v7 hM.re k4 hL b26 (by omega) a b
              rwa [show 2 * (i + 1) = 2 * i + 1 + 1 by omega] at this)
            have m10 : H8 60 10 = nI W := by rw [k8 60 (by omega) (by omega) (by omega)]; exact hM.1.1
            have nx0 := fun Q => k_M_nextO0 (N := N) (ca := ca) (cb := cb) (cs := cs) (d := d + 5) (hl := hl) (Q := Q) (L := L) (lv := nI (2 * i + 1)) (v2 := .int (nI (W + 1))) m10 hW
            have eu := st_up (N := N) (ca := ca) (cb := cb) (cs := cs) (d := d) (hl := hl) (b0 := b0) (L := L) (v := W + 1) (wv := nI (min (fo g (W - u) 1048576) (s + 20 + vsf (cnk W P) W t j L (zm_re M)))) hn (show 2 * i + 1 < 2 * n by omega) hW m10 (by rw [c8, hWe, nI_pred]) w8 (fun Q => by
              simp only [zr190_0, zr190_1, zr190_3, zr190_4, zr190_5, zr190_6, zr190_11, zr190_12, zr190_15, zr190_18, zr190_19, zr190_21, zr190_24, zr190_27, zr190_30, zr190_33, zr190_35, zr190_36, zr190_39, zr190_42, zr190_43, zr190_46, zr190_47, zr190_50, zr190_51, zr190_52, zr190_55, zr190_57, zr190_60, zr190_61, zr190_64, zr190_67, zr190_68, zr190_70, zr190_73, zr190_76, zr190_77, zr190_79, zr190_82, zr190_85, zr190_88, zr190_91, zr190_93, zq_kill_int, zq_kill_ref, zq_kill_ret, zq_kill_null, zq_kill_long, zq_rf_some, zq_rf_none, true_and, and_true, true_implies, not_true_eq_false, not_false_eq_true, false_implies, Bool.true_eq_false, Bool.false_eq_true, nI_1, zb_i0, zb_i1, zb_i2, Option.toList_some, Option.toList_none, List.cons_append, List.nil_append, true_or, or_true, implies_true, zb_it, zb_if, zb_10, zb_00, zb_n5, zb_n2, zb_m1, zb_m3, zb_m9, or_true, true_or, or_false, false_or, hod]
              exact nx0 Q)
            refine ⟨zq_u H8 85 (2 * i + 1) (nI (W + 1)), kfr_u85 k8, ufr_tr u8 ⟨fun k hk' => ⟨zq_u_kn (by omega), by rw [zq_u_ne (by omega)]⟩, fun k _ => by rw [zq_u_ne (by omega)]⟩, fun Q => ?_⟩
            rw [e8 v6 v7 Q, eu, ← hskip, hWe, Nat.add_assoc]
      intro H v6 v7 hk h85 h86
      exact inner W (Nat.le_refl _) H v6 v7 hk (by rw [Nat.sub_self]; exact h85) (by rw [Nat.sub_self]; exact h86)
    -- the one who strikes
    have hev := zl_ev i (by omega)
    have hod := zl_od i (by omega)
    have hvd := fun L M => vdf_le (ok := cnk W P) (W := W) (t := t) (B := 20 * j) (f := vsf (cnk W P) W t j) (vsf_le j) L M
    by_cases hL0 : L = 0
    · subst hL0
      have hv0 := hvd 0 M
      have m10 : H 60 10 = nI W := by rw [hk 60 (by omega) (by omega) (by omega)]; exact hM.1.1
      have hnx : nce 0 W W = W := by
        obtain ⟨⟨n1, n2⟩, n3, n4⟩ := nxw_spec (ok := fun w => (0 : Nat).testBit w) W (Nat.le_refl W)
        have hx : nxw (fun w => (0 : Nat).testBit w) W W = W := by
          refine Classical.byContradiction fun q => ?_
          have := n4 (by omega)
          rw [Nat.zero_testBit] at this
          cases this
        unfold nce
        rw [if_neg (fun q => q.2 rfl), hx]
      have nx := fun Q => k_M_nextE (N := N) (ca := ca) (cb := cb) (cs := cs) (d := d + 4) (hl := hl) (Q := Q) (L := 0) (lv := nI (2 * i)) (v2 := .int (nI 0)) m10 hW (by omega) W (Nat.le_refl _)
      rw [hnx, Nat.sub_self] at nx
      obtain ⟨H8, k8, u8, c8, w8, e8⟩ := st_even (N := N) (ca := ca) (cb := cb) (cs := cs) (d := d) (hl := hl) (b0 := b0) (L := 0) (v := 0) (wv := -1) (w0 := W) (L1 := 0) (val := s + vdf (cnk W P) W t (vsf (cnk W P) W t j) 0 M) hn (show 2 * i + 1 ≤ 2 * n by omega) hev hod hW (by omega) hM hk h85 h86 (fun Q => by
        simp only [zr190_0, zr190_1, zr190_3, zr190_4, zr190_5, zr190_6, zr190_11, zr190_12, zr190_15, zr190_18, zr190_19, zr190_21, zr190_24, zr190_27, zr190_30, zr190_33, zr190_35, zr190_36, zr190_39, zr190_42, zr190_43, zr190_46, zr190_47, zr190_50, zr190_51, zr190_52, zr190_55, zr190_57, zr190_60, zr190_61, zr190_64, zr190_67, zr190_68, zr190_70, zr190_73, zr190_76, zr190_77, zr190_79, zr190_82, zr190_85, zr190_88, zr190_91, zr190_93, zq_kill_int, zq_kill_ref, zq_kill_ret, zq_kill_null, zq_kill_long, zq_rf_some, zq_rf_none, true_and, and_true, true_implies, not_true_eq_false, not_false_eq_true, false_implies, Bool.true_eq_false, Bool.false_eq_true, nI_1, zb_i0, zb_i1, zb_i2, Option.toList_some, Option.toList_none, List.cons_append, List.nil_append, true_or, or_true, implies_true, zb_it, zb_if, zb_10, zb_00, zb_n5, zb_n2, zb_m1, zb_m3, zb_m9, or_true, true_or, or_false, false_or, hev]
        exact nx Q) (Or.inr ⟨rfl, rfl, rfl⟩) (by omega) (odd 0 hL)
      have m108 : H8 60 10 = nI W := by rw [k8 60 (by omega) (by omega) (by omega)]; exact hM.1.1
      have nx0 := fun Q => k_M_nextE0 (N := N) (ca := ca) (cb := cb) (cs := cs) (d := d + 5) (hl := hl) (Q := Q) (L := 0) (lv := nI (2 * i)) (v2 := .int (nI (W + 1))) m108 hW
      have wv : (if nI (s + vdf (cnk W P) W t (vsf (cnk W P) W t j) 0 M) < (-1 : Int32) then (-1 : Int32) else nI (s + vdf (cnk W P) W t (vsf (cnk W P) W t j) 0 M)) = nI (s + vdf (cnk W P) W t (vsf (cnk W P) W t j) 0 M) := if_neg fun q => nI_pos (show s + vdf (cnk W P) W t (vsf (cnk W P) W t j) 0 M < 2 ^ 31 by omega) (Int32.lt_trans q (by decide))
      rw [wv] at w8
      have eu := st_up (N := N) (ca := ca) (cb := cb) (cs := cs) (d := d) (hl := hl) (b0 := b0) (L := 0) (v := W + 1) hn (show 2 * i < 2 * n by omega) hW m108 (by rw [c8, nI_pred]) w8 (fun Q => by
        simp only [zr190_0, zr190_1, zr190_3, zr190_4, zr190_5, zr190_6, zr190_11, zr190_12, zr190_15, zr190_18, zr190_19, zr190_21, zr190_24, zr190_27, zr190_30, zr190_33, zr190_35, zr190_36, zr190_39, zr190_42, zr190_43, zr190_46, zr190_47, zr190_50, zr190_51, zr190_52, zr190_55, zr190_57, zr190_60, zr190_61, zr190_64, zr190_67, zr190_68, zr190_70, zr190_73, zr190_76, zr190_77, zr190_79, zr190_82, zr190_85, zr190_88, zr190_91, zr190_93, zq_kill_int, zq_kill_ref, zq_kill_ret, zq_kill_null, zq_kill_long, zq_rf_some, zq_rf_none, true_and, and_true, true_implies, not_true_eq_false, not_false_eq_true, false_implies, Bool.true_eq_false, Bool.false_eq_true, nI_1, zb_i0, zb_i1, zb_i2, Option.toList_some, Option.toList_none, List.cons_append, List.nil_append, true_or, or_true, implies_true, zb_it, zb_if, zb_10, zb_00, zb_n5, zb_n2, zb_m1, zb_m3, zb_m9, or_true, true_or, or_false, false_or, hev]
        exact nx0 Q)
      refine ⟨zq_u H8 85 (2 * i) (nI (W + 1)), kfr_u85 k8, ufr_tr u8 ⟨fun k hk' => ⟨zq_u_kn (by omega), by rw [zq_u_ne (by omega)]⟩, fun k _ => by rw [zq_u_ne (by omega)]⟩, fun Q => ?_⟩
      rw [e8 v6 v7 Q, eu, vsf_s, if_pos rfl]
    · obtain ⟨f1, -⟩ := fo_omx (p := fun w => L.testBit w) (h := fun w => vdf (cnk W P) W t (vsf (cnk W P) W t j) (clr L w) M) s W
      have f2 := f1 (bit_ex hL hL0)
      have hvs2 : vsf (cnk W P) W t (j + 1) L M = fo (fun w x => if L.testBit w = true then max x (vdf (cnk W P) W t (vsf (cnk W P) W t j) (clr L w) M) else x) W 0 := by rw [vsf_s, if_neg hL0]
      rw [hvs2]
      have f3 : nI (s + fo (fun w x => if L.testBit w = true then max x (vdf (cnk W P) W t (vsf (cnk W P) W t j) (clr L w) M) else x) W 0) = wo (fo (fun w o => if L.testBit w = true then omx o (s + vdf (cnk W P) W t (vsf (cnk W P) W t j) (clr L w) M) else o) W none) := by rw [f2]; rfl
      rw [f3]
      generalize hg : (fun w o => if L.testBit w = true then omx o (s + vdf (cnk W P) W t (vsf (cnk W P) W t j) (clr L w) M) else o) = g
      have hgo : ∀ w b, L.testBit w = false → g w b = b := fun w b e => by rw [← hg]; exact if_neg (by rw [e]; decide)
      have hgy : ∀ w b, L.testBit w = true → g w b = omx b (s + vdf (cnk W P) W t (vsf (cnk W P) W t j) (clr L w) M) := fun w b e => by rw [← hg]; exact if_pos e
      have hB : ∀ v x, fo g v none = some x → x ≤ 200 := by
        intro v
        induction v with
        | zero => intro x h; cases h
        | succ v ihv =>
          intro x h
          rw [fo_s] at h
          have hv := hvd (clr L v) M
          cases hb : L.testBit v with
          | false => rw [hgo v _ hb] at h; exact ihv x h
          | true =>
            rw [hgy v _ hb] at h
            cases hf : fo g v none with
            | none =>
              rw [hf] at h
              have h2 : s + vdf (cnk W P) W t (vsf (cnk W P) W t j) (clr L v) M = x := Option.some.inj h
              omega
            | some y =>
              have hy := ihv y hf
              rw [hf] at h
              have h2 : max y (s + vdf (cnk W P) W t (vsf (cnk W P) W t j) (clr L v) M) = x := Option.some.inj h
              omega
      have inner : ∀ u, u ≤ W → ∀ H v6 v7, kfr M H → H 85 (2 * i) = nI (W - u) - 1 → H 86 (2 * i) = wo (fo g (W - u) none) → ∃ H', kfr M H' ∧ ufr (2 * i) H H' ∧ ∀ Q, zq_P (d + 6) 189 63 (stL n b0 L (2 * i) v6 v7) [] (zq_SG N, H, hl, zq_HR ca cb cs) Q = zq_P (d + 6) 189 251 (stL n b0 L (2 * i) (wo (fo g W none)) 1) [] (zq_SG N, H', hl, zq_HR ca cb cs) Q := by
        intro u
        induction u using Nat.strongRecOn with
        | ind u ihu =>
          intro hu H v6 v7 hk h85 h86
          obtain ⟨⟨n1, n2⟩, n3, n4⟩ := nxw_spec (ok := fun w => L.testBit w) u hu
          have m10 : H 60 10 = nI W := by rw [hk 60 (by omega) (by omega) (by omega)]; exact hM.1.1
          have nx := fun Q => k_M_nextE (N := N) (ca := ca) (cb := cb) (cs := cs) (d := d + 4) (hl := hl) (Q := Q) (L := L) (lv := nI (2 * i)) (v2 := .int (nI (W - u))) m10 hW (by omega) u hu
          have nc : ∀ Q, zq_P (d + 5) 190 0 [.ref 60, .int (nI (2 * i)), .int (nI (W - u)), .int (nI L), .retAddr 0] [] (zq_SG N, H, hl, zq_HR ca cb cs) Q = Q (some (.int (nI (nce L W u)))) (zq_SG N, H, hl, zq_HR ca cb cs) := fun Q => by
            simp only [zr190_0, zr190_1, zr190_3, zr190_4, zr190_5, zr190_6, zr190_11, zr190_12, zr190_15, zr190_18, zr190_19, zr190_21, zr190_24, zr190_27, zr190_30, zr190_33, zr190_35, zr190_36, zr190_39, zr190_42, zr190_43, zr190_46, zr190_47, zr190_50, zr190_51, zr190_52, zr190_55, zr190_57, zr190_60, zr190_61, zr190_64, zr190_67, zr190_68, zr190_70, zr190_73, zr190_76, zr190_77, zr190_79, zr190_82, zr190_85, zr190_88, zr190_91, zr190_93, zq_kill_int, zq_kill_ref, zq_kill_ret, zq_kill_null, zq_kill_long, zq_rf_some, zq_rf_none, true_and, and_true, true_implies, not_true_eq_false, not_false_eq_true, false_implies, Bool.true_eq_false, Bool.false_eq_true, nI_1, zb_i0, zb_i1, zb_i2, Option.toList_some, Option.toList_none, List.cons_append, List.nil_append, true_or, or_true, implies_true, zb_it, zb_if, zb_10, zb_00, zb_n5, zb_n2, zb_m1, zb_m3, zb_m9, or_true, true_or, or_false, false_or, hev]
            exact nx Q
          unfold nce at nc
          generalize hw0 : nxw (fun w => L.testBit w) W u = w0 at n1 n2 n3 n4 nc
          have hskip : fo g w0 none = fo g (W - u) none := fo_skip hgo n1 n3
          by_cases hw : w0 < W
          · have hok := n4 hw
            rw [if_neg (show ¬ (w0 = W ∧ ¬ L = 0) by omega)] at nc
            have hcl := (zl_clr L (by omega) w0 (by omega)).2
            have hv := hvd (clr L w0) M
            obtain ⟨H8, k8, u8, c8, w8, e8⟩ := st_even (N := N) (ca := ca) (cb := cb) (cs := cs) (d := d) (hl := hl) (b0 := b0) (L := L) (v := W - u) (wv := wo (fo g (W - u) none)) (w0 := w0) (L1 := clr L w0) (val := s + vdf (cnk W P) W t (vsf (cnk W P) W t j) (clr L w0) M) hn (show 2 * i + 1 ≤ 2 * n by omega) hev hod hW (by omega) hM hk h85 h86 nc (Or.inl ⟨hw, hok, rfl⟩) (by omega) (odd (clr L w0) (by omega))
            have hle : W - (W - (w0 + 1)) = w0 + 1 := by omega
            have hwv : (if nI (s + vdf (cnk W P) W t (vsf (cnk W P) W t j) (clr L w0) M) < wo (fo g (W - u) none) then wo (fo g (W - u) none) else nI (s + vdf (cnk W P) W t (vsf (cnk W P) W t j) (clr L w0) M)) = wo (fo g (w0 + 1) none) := by
              rw [fo_s, hgy w0 _ hok, hskip]
              cases hf : fo g (W - u) none with
              | none =>
                exact if_neg fun q => nI_pos (show s + vdf (cnk W P) W t (vsf (cnk W P) W t j) (clr L w0) M < 2 ^ 31 by omega) (Int32.lt_trans q (show (-1 : Int32) < 0 by decide))
              | some y =>
                have hy := hB _ y hf
                show (if nI _ < nI y then nI y else nI _) = nI (max y _)
                rw [nI_max (by omega) (by omega), Nat.max_comm]
            rw [hwv] at w8
            obtain ⟨H9, k9, u9, e9⟩ := ihu (W - (w0 + 1)) (by omega) (by omega) H8 (nI (s + vdf (cnk W P) W t (vsf (cnk W P) W t j) (clr L w0) M)) 1 k8 (by rw [hle, c8, nI_pred]) (by rw [hle]; exact w8)
            exact ⟨H9, k9, ufr_tr u8 u9, fun Q => (e8 v6 v7 Q).trans (e9 Q)⟩
          · have hWe : w0 = W := by omega
            rw [if_pos (show w0 = W ∧ ¬ L = 0 from ⟨hWe, hL0⟩)] at nc
            have eu := st_up (N := N) (ca := ca) (cb := cb) (cs := cs) (d := d) (hl := hl) (b0 := b0) (L := L) (v := W - u) hn (show 2 * i < 2 * n by omega) hW m10 h85 h86 nc
            refine ⟨zq_u H 85 (2 * i) (nI (W + 1)), kfr_u85 hk, ⟨fun k hk' => ⟨zq_u_kn (by omega), by rw [zq_u_ne (by omega)]⟩, fun k _ => by rw [zq_u_ne (by omega)]⟩, fun Q => ?_⟩
            rw [eu, ← hskip, hWe]
      exact inner W (Nat.le_refl _) H v6 v7 hk (by rw [Nat.sub_self]; exact h85) (by rw [Nat.sub_self]; exact h86)
end Z59
section Z59b
variable {N : Nat} {x : Int32}
theorem p_strikes : zq_pair N 89 189 [.ref 0, .int x] [.ref 60, .int x, .retAddr 0, .retAddr 0, .retAddr 0, .retAddr 0, .retAddr 0, .retAddr 0] := by
  intro hi hl ca cb cs W P D h
  have hca := h.court
  have hc := zq_Ct_ok (N := N) (ca := ca) (cb := cb) (cs := cs) h.court
  have hct := h.2.2.2.2.2.1
  obtain ⟨⟨w1, w2, w3, w4, w5, w6, -⟩, -, wa⟩ := id hct
  by_cases hx : ¬ x < 0 ∧ ¬ 3 < x
  · have hin : zm_in x 0 3 = true := by unfold zm_in; rw [decide_eq_true_eq]; exact hx
    by_cases hW0 : W = 0
    · have e0 : (nI W = 0) = True := eq_true (by rw [hW0]; rfl)
      refine ⟨.int (-4), hi, hl, ca, cb, cs, hi, hl, W, P, D, fun Q => ?_, fun Q => ?_, h⟩
      · simp only [zr89_0, zr89_1, zr89_4, zr89_5, zr89_6, zr89_9, zr89_10, zr89_11, zr89_12, zr89_15, zr89_18, zr89_21, zr89_23, zr89_24, zr89_25, zr89_28, zr89_29, zr89_32, zr89_33, zr89_36, zr89_37, zr89_40, zr89_41, zr89_44, zr89_45, zr89_46, zr89_49, zr89_52, zr89_53, zr89_54, zr89_55, zr89_56, zr89_59, zs_x0 N, zh_x0 ca cb cs, hc.1, zq_kill_int, zq_kill_ref, zq_kill_ret, zq_kill_null, zq_kill_long, zq_rf_some, zq_rf_none, true_and, and_true, true_implies, not_true_eq_false, not_false_eq_true, false_implies, Bool.true_eq_false, Bool.false_eq_true, nI_1, zb_i0, zb_i1, zb_i2, Option.toList_some, Option.toList_none, List.cons_append, List.nil_append, true_or, or_true, implies_true, zb_it, zb_if, zb_10, zb_00, zb_n5, zb_n2, zb_m1, zb_m3, zb_m9, or_true, true_or, or_false, false_or, hx, w3, e0]
      · simp only [zr189_0, zr189_1, zr189_2, zr189_3, zr189_6, zr189_9, zr189_10, zr189_11, zr189_12, zr189_15, zr189_18, zr189_20, zr189_21, zr189_22, zr189_25, zr189_26, zr189_27, zr189_28, zr189_31, zr189_32, zr189_33, zr189_34, zr189_35, zr189_36, zr189_38, zr189_39, zr189_40, zr189_41, zr189_43, zr189_44, zr189_46, zr189_47, zr189_50, zr189_51, zr189_52, zr189_53, zr189_54, zr189_57, zr189_58, zr189_59, zr189_60, zr189_61, zr189_65, zr189_68, zr189_70, zr189_72, zr189_75, zr189_76, zr189_79, zr189_80, zr189_81, zr189_83, zr189_84, zr189_86, zr189_89, zr189_90, zr189_93, zr189_95, zr189_96, zr189_98, zr189_99, zr189_102, zr189_104, zr189_105, zr189_106, zr189_107, zr189_108, zr189_111, zr189_112, zr189_113, zr189_116, zr189_118, zr189_119, zr189_120, zr189_123, zr189_126, zr189_127, zr189_130, zr189_131, zr189_133, zr189_134, zr189_137, zr189_139, zr189_140, zr189_142, zr189_144, zr189_147, zr189_149, zr189_150, zr189_151, zr189_154, zr189_155, zr189_156, zr189_157, zr189_160, zr189_162, zr189_163, zr189_164, zr189_165, zr189_166, zr189_167, zr189_168, zr189_171, zr189_172, zr189_173, zr189_176, zr189_178, zr189_180, zr189_181, zr189_184, zr189_185, zr189_188, zr189_190, zr189_191, zr189_192, zr189_195, zr189_198, zr189_199, zr189_200, zr189_203, zr189_205, zr189_206, zr189_209, zr189_212, zr189_213, zr189_216, zr189_219, zr189_220, zr189_223, zr189_225, zr189_226, zr189_227, zr189_228, zr189_231, zr189_233, zr189_235, zr189_236, zr189_237, zr189_240, zr189_241, zr189_244, zr189_247, zr189_248, zr189_251, zr189_254, zr189_256, zr189_259, zr189_260, zr189_263, zr189_265, zr189_267, zr189_268, zr189_269, zr189_272, zr189_273, zr189_276, zr189_278, zr189_279, zr189_281, zr189_284, zr189_287, zr189_289, zr189_290, zr189_293, zr189_295, zr189_296, zr189_299, zr189_301, zr189_304, zr189_305, zr189_308, zr189_310, zr189_311, zr189_312, zr189_314, zr189_315, zr189_316, zr189_319, zr189_320, zr189_321, zr189_324, zr189_326, zr189_327, zr189_328, zr189_331, zr189_334, zr189_335, zr189_336, zr189_339, zr189_341, zr189_342, zr189_343, zr189_346, zr189_347, zr189_348, zr189_349, zr189_352, zr189_353, zr189_354, zr189_357, zr189_359, zr189_361, zr189_362, zr189_365, zr189_368, zr189_370, zs_m0 N, zs_m1 N, zs_m2 N, zh_m0 ca cb cs, zq_kill_int, zq_kill_ref, zq_kill_ret, zq_kill_null, zq_kill_long, zq_rf_some, zq_rf_none, true_and, and_true, true_implies, not_true_eq_false, not_false_eq_true, false_implies, Bool.true_eq_false, Bool.false_eq_true, nI_1, zb_i0, zb_i1, zb_i2, Option.toList_some, Option.toList_none, List.cons_append, List.nil_append, true_or, or_true, implies_true, zb_it, zb_if, zb_10, zb_00, zb_n5, zb_n2, zb_m1, zb_m3, zb_m9, or_true, true_or, or_false, false_or, k_M_in, hin, w4, e0]
    · have e0 : (nI W = 0) = False := eq_false (nI_ne0 (by omega) (by omega))
      obtain ⟨n, hn, rfl⟩ : ∃ n, n ≤ 3 ∧ x = nI n := nI_of2 (x := x) (M := 3) (n := 3) (by decide) hx.1 (Int32.not_lt.mp hx.2)
      have d0 := h.2.2.2.2.2.2.1.1
      have p128 := zl_p128 W w1
      have hc2 := zq_Ct_ok (N := N) (ca := ca) (cb := cb) (cs := ca) h.court
      obtain ⟨C0, b1, b2, b3, b4, b5, b6, b7⟩ := k_Search_begin (N := N) (d := 56) (cb := cb) (cs := cs) (hl := hl) (n := n) hca w3 w1 (by omega)
      have hcor := cor_start0 h b2 b3 b4
      have hM := Mok_cor hcor
      generalize ht : (fun w => (zm_tr C0 w).toNatClampNeg) = t at hM
      have st := fun Q => k_Search_striking (N := N) (ca := ca) (cb := cb) (hl := hl) (c := ca) (t := t) hca n hn 51 (by omega) (2 ^ W - 1) (by omega) D C0 C0 hcor hM (by omega) Q
      rw [show 51 + 6 = 57 from rfl] at st
      have c10 : C0 60 10 = nI W := by rw [b2 _ (by omega)]; exact w4
      have cc10 : C0 ca 10 = nI W := by rw [b2 _ (by omega)]; exact w3
      have p0 : 0 < 2 ^ W := Nat.pow_pos (by omega)
      generalize hH0 : zq_u (zq_u C0 85 0 (-1)) 86 0 (-1) = H0
      have k0 : kfr C0 H0 := by rw [← hH0]; exact kfr_u86 (kfr_u85 fun _ _ _ _ => rfl)
      obtain ⟨H', k1, -, e1⟩ := k_M_strikes_E (N := N) (ca := ca) (cb := cb) (cs := ca) (d := 52) (hl := hl) (P := P) (t := t) (b0 := C0 60 26) hn w1 n 0 (by omega) C0 (2 ^ W - 1) 0 H0 0 0 hM k0 (by omega) (by rw [Int32.sub_self]; rfl) (by omega) (by rw [← hH0, zq_u_ne (by omega), zq_u_eq]) (by rw [← hH0, zq_u_eq])
      rw [Nat.zero_add] at e1
      have e2 : ∀ Q, zq_P 58 189 63 [.ref 60, .int (nI n), .int (C0 60 26), .int (nI (2 ^ W - 1)), .int 0, .int (nI (2 * n)), .int 0, .int 0] [] (zq_SG N, H0, hl, zq_HR ca cb ca) Q = zq_P 58 189 251 [.ref 60, .int (nI n), .int (C0 60 26), .int (nI (2 ^ W - 1)), .int 0, .int (nI (2 * n)), .int (nI (vsf (cnk W P) W t n (2 ^ W - 1) C0)), .int 1] [] (zq_SG N, H', hl, zq_HR ca cb ca) Q := e1
      have x1 : zq_xS (0 : Int32) 7 := zb_x (k := 0) (n := 7) (by omega) (by omega)
      have x2 : (0 : Int32).toNatClampNeg = 0 := rfl
      have em : (0 : Int32) + (-1) = -1 := by decide
      have m2 : (2 : Int32) * nI n = nI (2 * n) := pk_mul 2 n
      refine ⟨.int (nI (vsf (cnk W P) W t n (2 ^ W - 1) C0)), C0, hl, ca, cb, ca, H', hl, W, P, D, fun Q => ?_, fun Q => ?_, ?_⟩
      · simp only [zr89_0, zr89_1, zr89_4, zr89_5, zr89_6, zr89_9, zr89_10, zr89_11, zr89_12, zr89_15, zr89_18, zr89_21, zr89_23, zr89_24, zr89_25, zr89_28, zr89_29, zr89_32, zr89_33, zr89_36, zr89_37, zr89_40, zr89_41, zr89_44, zr89_45, zr89_46, zr89_49, zr89_52, zr89_53, zr89_54, zr89_55, zr89_56, zr89_59, zs_x0 N, zs_q0 N, zh_x0 ca cb cs, zh_x0 ca cb ca, hc.1, zq_kill_int, zq_kill_ref, zq_kill_ret, zq_kill_null, zq_kill_long, zq_rf_some, zq_rf_none, true_and, and_true, true_implies, not_true_eq_false, not_false_eq_true, false_implies, Bool.true_eq_false, Bool.false_eq_true, nI_1, zb_i0, zb_i1, zb_i2, Option.toList_some, Option.toList_none, List.cons_append, List.nil_append, true_or, or_true, implies_true, zb_it, zb_if, zb_10, zb_00, zb_n5, zb_n2, zb_m1, zb_m3, zb_m9, or_true, true_or, or_false, false_or, hx, w3, e0, b1, cc10, zl_full W w1, st]
      · simp only [zr189_0, zr189_1, zr189_2, zr189_3, zr189_6, zr189_9, zr189_10, zr189_11, zr189_12, zr189_15, zr189_18, zr189_20, zr189_21, zr189_22, zr189_25, zr189_26, zr189_27, zr189_28, zr189_31, zr189_32, zr189_33, zr189_34, zr189_35, zr189_36, zr189_38, zr189_39, zr189_40, zr189_41, zr189_43, zr189_44, zr189_46, zr189_47, zr189_50, zr189_51, zr189_52, zr189_53, zr189_54, zr189_57, zr189_58, zr189_59, zr189_60, zr189_61, zr189_65, zr189_68, zr189_70, zr189_72, zr189_75, zr189_76, zr189_79, zr189_80, zr189_81, zr189_83, zr189_84, zr189_86, zr189_89, zr189_90, zr189_93, zr189_95, zr189_96, zr189_98, zr189_99, zr189_102, zr189_104, zr189_105, zr189_106, zr189_107, zr189_108, zr189_111, zr189_112, zr189_113, zr189_116, zr189_118, zr189_119, zr189_120, zr189_123, zr189_126, zr189_127, zr189_130, zr189_131, zr189_133, zr189_134, zr189_137, zr189_139, zr189_140, zr189_142, zr189_144, zr189_147, zr189_149, zr189_150, zr189_151, zr189_154, zr189_155, zr189_156, zr189_157, zr189_160, zr189_162, zr189_163, zr189_164, zr189_165, zr189_166, zr189_167, zr189_168, zr189_171, zr189_172, zr189_173, zr189_176, zr189_178, zr189_180, zr189_181, zr189_184, zr189_185, zr189_188, zr189_190, zr189_191, zr189_192, zr189_195, zr189_198, zr189_199, zr189_200, zr189_203, zr189_205, zr189_206, zr189_209, zr189_212, zr189_213, zr189_216, zr189_219, zr189_220, zr189_223, zr189_225, zr189_226, zr189_227, zr189_228, zr189_231, zr189_233, zr189_235, zr189_236, zr189_237, zr189_240, zr189_241, zr189_244, zr189_247, zr189_248, zr189_254, zr189_256, zr189_259, zr189_260, zr189_263, zr189_265, zr189_267, zr189_268, zr189_269, zr189_272, zr189_273, zr189_276, zr189_278, zr189_279, zr189_281, zr189_284, zr189_287, zr189_289, zr189_290, zr189_293, zr189_295, zr189_296, zr189_299, zr189_301, zr189_304, zr189_305, zr189_308, zr189_310, zr189_311, zr189_312, zr189_314, zr189_315, zr189_316, zr189_319, zr189_320, zr189_321, zr189_324, zr189_326, zr189_327, zr189_328, zr189_331, zr189_334, zr189_335, zr189_336, zr189_339, zr189_341, zr189_342, zr189_343, zr189_346, zr189_347, zr189_348, zr189_349, zr189_352, zr189_353, zr189_354, zr189_357, zr189_359, zr189_361, zr189_362, zr189_365, zr189_368, zr189_370, zs_m0 N, zs_m1 N, zs_m2 N, zh_m0 ca cb ca, zq_kill_int, zq_kill_ref, zq_kill_ret, zq_kill_null, zq_kill_long, zq_rf_some, zq_rf_none, true_and, and_true, true_implies, not_true_eq_false, not_false_eq_true, false_implies, Bool.true_eq_false, Bool.false_eq_true, nI_1, zb_i0, zb_i1, zb_i2, Option.toList_some, Option.toList_none, List.cons_append, List.nil_append, true_or, or_true, implies_true, zb_it, zb_if, zb_10, zb_00, zb_n5, zb_n2, zb_m1, zb_m3, zb_m9, or_true, true_or, or_false, false_or, k_M_in, hin, c10, e0, zl_full W w1, m2, x1, x2, hH0]
        refine Eq.trans (e2 Q) ?_
        rw [zr189_251]
        simp only [zr189_0, zr189_1, zr189_2, zr189_3, zr189_6, zr189_9, zr189_10, zr189_11, zr189_12, zr189_15, zr189_18, zr189_20, zr189_21, zr189_22, zr189_25, zr189_26, zr189_27, zr189_28, zr189_31, zr189_32, zr189_33, zr189_34, zr189_35, zr189_36, zr189_38, zr189_39, zr189_40, zr189_41, zr189_43, zr189_44, zr189_46, zr189_47, zr189_50, zr189_51, zr189_52, zr189_53, zr189_54, zr189_57, zr189_58, zr189_59, zr189_60, zr189_61, zr189_65, zr189_68, zr189_70, zr189_72, zr189_75, zr189_76, zr189_79, zr189_80, zr189_81, zr189_83, zr189_84, zr189_86, zr189_89, zr189_90, zr189_93, zr189_95, zr189_96, zr189_98, zr189_99, zr189_102, zr189_104, zr189_105, zr189_106, zr189_107, zr189_108, zr189_111, zr189_112, zr189_113, zr189_116, zr189_118, zr189_119, zr189_120, zr189_123, zr189_126, zr189_127, zr189_130, zr189_131, zr189_133, zr189_134, zr189_137, zr189_139, zr189_140, zr189_142, zr189_144, zr189_147, zr189_149, zr189_150, zr189_151, zr189_154, zr189_155, zr189_156, zr189_157, zr189_160, zr189_162, zr189_163, zr189_164, zr189_165, zr189_166, zr189_167, zr189_168, zr189_171, zr189_172, zr189_173, zr189_176, zr189_178, zr189_180, zr189_181, zr189_184, zr189_185, zr189_188, zr189_190, zr189_191, zr189_192, zr189_195, zr189_198, zr189_199, zr189_200, zr189_203, zr189_205, zr189_206, zr189_209, zr189_212, zr189_213, zr189_216, zr189_219, zr189_220, zr189_223, zr189_225, zr189_226, zr189_227, zr189_228, zr189_231, zr189_233, zr189_235, zr189_236, zr189_237, zr189_240, zr189_241, zr189_244, zr189_247, zr189_248, zr189_254, zr189_256, zr189_259, zr189_260, zr189_263, zr189_265, zr189_267, zr189_268, zr189_269, zr189_272, zr189_273, zr189_276, zr189_278, zr189_279, zr189_281, zr189_284, zr189_287, zr189_289, zr189_290, zr189_293, zr189_295, zr189_296, zr189_299, zr189_301, zr189_304, zr189_305, zr189_308, zr189_310, zr189_311, zr189_312, zr189_314, zr189_315, zr189_316, zr189_319, zr189_320, zr189_321, zr189_324, zr189_326, zr189_327, zr189_328, zr189_331, zr189_334, zr189_335, zr189_336, zr189_339, zr189_341, zr189_342, zr189_343, zr189_346, zr189_347, zr189_348, zr189_349, zr189_352, zr189_353, zr189_354, zr189_357, zr189_359, zr189_361, zr189_362, zr189_365, zr189_368, zr189_370, zq_kill_int, zq_kill_ref, zq_kill_ret, zq_kill_null, zq_kill_long, zq_rf_some, zq_rf_none, true_and, and_true, true_implies, not_true_eq_false, not_false_eq_true, false_implies, Bool.true_eq_false, Bool.false_eq_true, nI_1, zb_i0, zb_i1, zb_i2, Option.toList_some, Option.toList_none, List.cons_append, List.nil_append, true_or, or_true, implies_true, zb_it, zb_if, zb_10, zb_00, zb_n5, zb_n2, zb_m1, zb_m3, zb_m9, or_true, true_or, or_false, false_or, em]
        rw [zr189_63]
        simp only [zr189_0, zr189_1, zr189_2, zr189_3, zr189_6, zr189_9, zr189_10, zr189_11, zr189_12, zr189_15, zr189_18, zr189_20, zr189_21, zr189_22, zr189_25, zr189_26, zr189_27, zr189_28, zr189_31, zr189_32, zr189_33, zr189_34, zr189_35, zr189_36, zr189_38, zr189_39, zr189_40, zr189_41, zr189_43, zr189_44, zr189_46, zr189_47, zr189_50, zr189_51, zr189_52, zr189_53, zr189_54, zr189_57, zr189_58, zr189_59, zr189_60, zr189_61, zr189_65, zr189_68, zr189_70, zr189_72, zr189_75, zr189_76, zr189_79, zr189_80, zr189_81, zr189_83, zr189_84, zr189_86, zr189_89, zr189_90, zr189_93, zr189_95, zr189_96, zr189_98, zr189_99, zr189_102, zr189_104, zr189_105, zr189_106, zr189_107, zr189_108, zr189_111, zr189_112, zr189_113, zr189_116, zr189_118, zr189_119, zr189_120, zr189_123, zr189_126, zr189_127, zr189_130, zr189_131, zr189_133, zr189_134, zr189_137, zr189_139, zr189_140, zr189_142, zr189_144, zr189_147, zr189_149, zr189_150, zr189_151, zr189_154, zr189_155, zr189_156, zr189_157, zr189_160, zr189_162, zr189_163, zr189_164, zr189_165, zr189_166, zr189_167, zr189_168, zr189_171, zr189_172, zr189_173, zr189_176, zr189_178, zr189_180, zr189_181, zr189_184, zr189_185, zr189_188, zr189_190, zr189_191, zr189_192, zr189_195, zr189_198, zr189_199, zr189_200, zr189_203, zr189_205, zr189_206, zr189_209, zr189_212, zr189_213, zr189_216, zr189_219, zr189_220, zr189_223, zr189_225, zr189_226, zr189_227, zr189_228, zr189_231, zr189_233, zr189_235, zr189_236, zr189_237, zr189_240, zr189_241, zr189_244, zr189_247, zr189_248, zr189_254, zr189_256, zr189_259, zr189_260, zr189_263, zr189_265, zr189_267, zr189_268, zr189_269, zr189_272, zr189_273, zr189_276, zr189_278, zr189_279, zr189_281, zr189_284, zr189_287, zr189_289, zr189_290, zr189_293, zr189_295, zr189_296, zr189_299, zr189_301, zr189_304, zr189_305, zr189_308, zr189_310, zr189_311, zr189_312, zr189_314, zr189_315, zr189_316, zr189_319, zr189_320, zr189_321, zr189_324, zr189_326, zr189_327, zr189_328, zr189_331, zr189_334, zr189_335, zr189_336, zr189_339, zr189_341, zr189_342, zr189_343, zr189_346, zr189_347, zr189_348, zr189_349, zr189_352, zr189_353, zr189_354, zr189_357, zr189_359, zr189_361, zr189_362, zr189_365, zr189_368, zr189_370, zq_kill_int, zq_kill_ref, zq_kill_ret, zq_kill_null, zq_kill_long, zq_rf_some, zq_rf_none, true_and, and_true, true_implies, not_true_eq_false, not_false_eq_true, false_implies, Bool.true_eq_false, Bool.false_eq_true, nI_1, zb_i0, zb_i1, zb_i2, Option.toList_some, Option.toList_none, List.cons_append, List.nil_append, true_or, or_true, implies_true, zb_it, zb_if, zb_10, zb_00, zb_n5, zb_n2, zb_m1, zb_m3, zb_m9, or_true, true_or, or_false, false_or]
      · refine h.search (C2 := C0) (fun a ha _ => b2 a (by omega)) (by rw [b2 0 (by omega)]) ?_ (fun a ha => k1 a (by omega) (by omega) (by omega)) (fun a a1 a2 => k1 a (by omega) (by omega) (by omega)) (fun f _ f1 => by rw [k1 60 (by omega) (by omega) (by omega)]) h.2.2.1.2.1 h.2.2.1.2.2.1
        rw [k1 60 (by omega) (by omega) (by omega), b2 0 (by omega), b2 60 (by omega)]
        exact h.2.2.1.1
  · refine ⟨.int (-1), hi, hl, ca, cb, cs, hi, hl, W, P, D, fun Q => ?_, fun Q => ?_, h⟩
    · simp only [zr89_0, zr89_1, zr89_4, zr89_5, zr89_6, zr89_9, zr89_10, zr89_11, zr89_12, zr89_15, zr89_18, zr89_21, zr89_23, zr89_24, zr89_25, zr89_28, zr89_29, zr89_32, zr89_33, zr89_36, zr89_37, zr89_40, zr89_41, zr89_44, zr89_45, zr89_46, zr89_49, zr89_52, zr89_53, zr89_54, zr89_55, zr89_56, zr89_59, zs_x0 N, zh_x0 ca cb cs, zq_kill_int, zq_kill_ref, zq_kill_ret, zq_kill_null, zq_kill_long, zq_rf_some, zq_rf_none, true_and, and_true, true_implies, not_true_eq_false, not_false_eq_true, false_implies, Bool.true_eq_false, Bool.false_eq_true, nI_1, zb_i0, zb_i1, zb_i2, Option.toList_some, Option.toList_none, List.cons_append, List.nil_append, true_or, or_true, implies_true, zb_it, zb_if, zb_10, zb_00, zb_n5, zb_n2, zb_m1, zb_m3, zb_m9, or_true, true_or, or_false, false_or]
      by_cases q1 : x < 0
      · simp [q1]
      · by_cases q2 : 3 < x
        · simp [q1, q2]
        · exact absurd ⟨q1, q2⟩ hx
    · simp only [zr189_0, zr189_1, zr189_2, zr189_3, zr189_6, zr189_9, zr189_10, zr189_11, zr189_12, zr189_15, zr189_18, zr189_20, zr189_21, zr189_22, zr189_25, zr189_26, zr189_27, zr189_28, zr189_31, zr189_32, zr189_33, zr189_34, zr189_35, zr189_36, zr189_38, zr189_39, zr189_40, zr189_41, zr189_43, zr189_44, zr189_46, zr189_47, zr189_50, zr189_51, zr189_52, zr189_53, zr189_54, zr189_57, zr189_58, zr189_59, zr189_60, zr189_61, zr189_65, zr189_68, zr189_70, zr189_72, zr189_75, zr189_76, zr189_79, zr189_80, zr189_81, zr189_83, zr189_84, zr189_86, zr189_89, zr189_90, zr189_93, zr189_95, zr189_96, zr189_98, zr189_99, zr189_102, zr189_104, zr189_105, zr189_106, zr189_107, zr189_108, zr189_111, zr189_112, zr189_113, zr189_116, zr189_118, zr189_119, zr189_120, zr189_123, zr189_126, zr189_127, zr189_130, zr189_131, zr189_133, zr189_134, zr189_137, zr189_139, zr189_140, zr189_142, zr189_144, zr189_147, zr189_149, zr189_150, zr189_151, zr189_154, zr189_155, zr189_156, zr189_157, zr189_160, zr189_162, zr189_163, zr189_164, zr189_165, zr189_166, zr189_167, zr189_168, zr189_171, zr189_172, zr189_173, zr189_176, zr189_178, zr189_180, zr189_181, zr189_184, zr189_185, zr189_188, zr189_190, zr189_191, zr189_192, zr189_195, zr189_198, zr189_199, zr189_200, zr189_203, zr189_205, zr189_206, zr189_209, zr189_212, zr189_213, zr189_216, zr189_219, zr189_220, zr189_223, zr189_225, zr189_226, zr189_227, zr189_228, zr189_231, zr189_233, zr189_235, zr189_236, zr189_237, zr189_240, zr189_241, zr189_244, zr189_247, zr189_248, zr189_251, zr189_254, zr189_256, zr189_259, zr189_260, zr189_263, zr189_265, zr189_267, zr189_268, zr189_269, zr189_272, zr189_273, zr189_276, zr189_278, zr189_279, zr189_281, zr189_284, zr189_287, zr189_289, zr189_290, zr189_293, zr189_295, zr189_296, zr189_299, zr189_301, zr189_304, zr189_305, zr189_308, zr189_310, zr189_311, zr189_312, zr189_314, zr189_315, zr189_316, zr189_319, zr189_320, zr189_321, zr189_324, zr189_326, zr189_327, zr189_328, zr189_331, zr189_334, zr189_335, zr189_336, zr189_339, zr189_341, zr189_342, zr189_343, zr189_346, zr189_347, zr189_348, zr189_349, zr189_352, zr189_353, zr189_354, zr189_357, zr189_359, zr189_361, zr189_362, zr189_365, zr189_368, zr189_370, zs_m0 N, zs_m1 N, zs_m2 N, zh_m0 ca cb cs, zq_kill_int, zq_kill_ref, zq_kill_ret, zq_kill_null, zq_kill_long, zq_rf_some, zq_rf_none, true_and, and_true, true_implies, not_true_eq_false, not_false_eq_true, false_implies, Bool.true_eq_false, Bool.false_eq_true, nI_1, zb_i0, zb_i1, zb_i2, Option.toList_some, Option.toList_none, List.cons_append, List.nil_append, true_or, or_true, implies_true, zb_it, zb_if, zb_10, zb_00, zb_n5, zb_n2, zb_m1, zb_m3, zb_m9, or_true, true_or, or_false, false_or, k_M_in, zm_in, hx, decide_false]
end Z59b
