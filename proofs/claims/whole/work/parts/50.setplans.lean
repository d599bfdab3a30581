/-! The reference's search through plans -/
def bsr (n : Nat) (H : zq_I) (b : bsT) : Prop := match b with
  | none => H 60 40 = 1048576
  | some (c, ρ) => c ≤ 200 ∧ H 60 40 = nI c ∧ ∀ j, j < n → H 82 j = nI (ρ j)
def RS (n : Nat) (H : zq_I) (a : exT) : Prop := H 60 39 = nI a.1 ∧ bsr n H a.2.1 ∧ H 60 41 = nI a.2.2.1 ∧ a.2.2.1 ≤ 6 ∧ ∀ j, j < a.2.2.1 → H 83 j = nI (a.2.2.2 j)
section Z50
variable {N ca cb cs d W P D n k : Nat} {hi C M H H2 : zq_I} {hl : zq_J} {Q : Option Value → zq_G → Prop} {t : Nat → Nat} {may b0 : Int32} {π : Nat → Nat}
theorem RS_fr {a : exT} (h : RS n H a) (e1 : ∀ f, 38 < f → f < 42 → H2 60 f = H 60 f) (e2 : H2 82 = H 82) (e3 : H2 83 = H 83) : RS n H2 a := by
  obtain ⟨h1, h2, h3, h4, h5⟩ := h
  refine ⟨?_, ?_, ?_, h4, ?_⟩
  · rw [e1 39 (by omega) (by omega)]; exact h1
  · revert h2
    unfold bsr
    rw [e1 40 (by omega) (by omega), e2]
    exact id
  · rw [e1 41 (by omega) (by omega)]; exact h3
  · rw [e3]; exact h5
theorem sfr_u80 {v : Int32} (h : sfr M H) : sfr M (zq_u H 80 k v) := ⟨fun a a1 a2 => by rw [zq_u_ne (by omega)]; exact h.1 a a1 a2, fun f hf => by rw [zq_u_ne (by omega)]; exact h.2 f hf⟩
theorem sfr_u81 {v : Int32} (h : sfr M H) : sfr M (zq_u H 81 k v) := ⟨fun a a1 a2 => by rw [zq_u_ne (by omega)]; exact h.1 a a1 a2, fun f hf => by rw [zq_u_ne (by omega)]; exact h.2 f hf⟩
theorem sfr_u60 {f : Nat} {v : Int32} (hf : 38 < f ∧ f < 42) (h : sfr M H) : sfr M (zq_u H 60 f v) := ⟨fun a a1 a2 => by rw [zq_u_ne a1]; exact h.1 a a1 a2, fun g hg => by rw [zq_u_kn (by omega)]; exact h.2 g hg⟩
theorem sfr_w {A : Nat} {v : Nat → Int32} (hA : 80 ≤ A ∧ A ≤ 83) (h : sfr M H) : sfr M (zq_w H A v) := ⟨fun a a1 a2 => by rw [zq_w_ne (by omega)]; exact h.1 a a1 a2, fun f hf => by rw [zq_w_ne (by omega)]; exact h.2 f hf⟩
theorem zb_sac (x : Int32) : x - 1 + 1 = x := by
  rw [Int32.sub_eq_add_neg, Int32.add_assoc, Int32.add_comm (-1), ← Int32.sub_eq_add_neg, Int32.sub_self, Int32.add_zero]
theorem fo_skip {α : Type} {g : Nat → α → α} {a : α} {ok : Nat → Bool} (hg : ∀ w b, ok w = false → g w b = b) {v u : Nat} : v ≤ u → (∀ w, v ≤ w → w < u → ok w = false) → fo g u a = fo g v a := by
  intro h hw
  induction u with
  | zero => rw [show v = 0 by omega]
  | succ u ih =>
    by_cases e : v = u + 1
    · rw [e]
    · rw [fo_s, ih (by omega) (fun w h1 h2 => hw w h1 (by omega))]
      exact hg u _ (hw u (by omega) (by omega))
theorem k_M_setPlans_in (hn : n ≤ 6) : ∀ m k, k + m = n → ∀ M s π a H, Mok W P t M → sfr M H → (∀ j, j < k → H 80 j = nI (π j)) → RS n H a → M 60 26 - b0 = nI s → s ≤ 18 * k → H 80 k = -1 →
    ∃ H', sfr M H' ∧ (∀ j, j < k → H' 80 j = H 80 j ∧ H' 81 j = H 81 j) ∧ RS n H' (ex (okm W P may) W t m k M s π a) ∧ ∀ Q, zq_P (d + 5) 171 32 [.ref 60, .int (nI n), .int may, .int b0, .int (nI k)] [] (zq_SG N, H, hl, zq_HR ca cb cs) Q = zq_P (d + 5) 171 201 [.ref 60, .int (nI n), .int may, .int b0, .int (nI k)] [] (zq_SG N, H', hl, zq_HR ca cb cs) Q := by
  have c1 : zq_aS (zq_SG N) 80 ∧ zq_ln (zq_SG N) 80 = 7 := by simp only [zs_m0 N, zs_m1 N, zs_m2 N, and_self]
  have c2 : zq_aW (zq_SG N) 82 ∧ zq_ln (zq_SG N) 82 = 7 := by simp only [zs_m0 N, zs_m1 N, zs_m2 N, and_self]
  have c3 : zq_aW (zq_SG N) 83 ∧ zq_ln (zq_SG N) 83 = 7 := by simp only [zs_m0 N, zs_m1 N, zs_m2 N, and_self]
  have cc2 := fun (h : zq_I) Q => k_M_copies (N := N) (ca := ca) (cb := cb) (cs := cs) (d := d + 4) (hi := h) (hl := hl) (Q := Q) c1 c2 (by omega)
  have cc3 := fun (h : zq_I) Q => k_M_copies (N := N) (ca := ca) (cb := cb) (cs := cs) (d := d + 4) (hi := h) (hl := hl) (Q := Q) c1 c3 (by omega)
  intro m
  induction m with
  | zero =>
    intro k hk M s π a H hM hs hp hr hb hsk h80
    have hkn : k = n := by omega
    subst hkn
    have q0 : (nI k < 0) = False := eq_false (nI_pos (by omega))
    have q1 : (nI k < nI k) = False := eq_false (nI_nlt (Nat.le_refl _) (by omega))
    obtain ⟨r1, r2, r3, r4, r5⟩ := hr
    have e26 : ∀ v, zq_u H 60 39 v 60 26 = H 60 26 := fun v => zq_u_kn (by omega)
    have e40 : ∀ v, zq_u H 60 39 v 60 40 = H 60 40 := fun v => zq_u_kn (by omega)
    have eb : H 60 26 - b0 = nI s := by rw [hs.2 26 (by omega)]; exact hb
    obtain ⟨pm, bs, fa, fl⟩ := a
    dsimp only at r1 r2 r3 r4 r5
    have upd : (nI s < H 60 40) = True → bsu bs s π = some (s, π) → ∃ H', sfr M H' ∧ (∀ j, j < k → H' 80 j = H 80 j ∧ H' 81 j = H 81 j) ∧ RS k H' (ex (okm W P may) W t 0 k M s π (pm, bs, fa, fl)) ∧ ∀ Q, zq_P (d + 5) 171 32 [.ref 60, .int (nI k), .int may, .int b0, .int (nI k)] [] (zq_SG N, H, hl, zq_HR ca cb cs) Q = zq_P (d + 5) 171 201 [.ref 60, .int (nI k), .int may, .int b0, .int (nI k)] [] (zq_SG N, H', hl, zq_HR ca cb cs) Q := by
      intro hlt hbs
      have eh : ∀ u v, zq_u (zq_u H 60 39 u) 60 40 v 80 = H 80 := fun u v => by rw [zq_u_ne (by omega), zq_u_ne (by omega)]
      refine ⟨zq_w (zq_u (zq_u H 60 39 (nI (pm + 1))) 60 40 (nI s)) 82 (va_cpy (zq_u (zq_u H 60 39 (nI (pm + 1))) 60 40 (nI s) 80) (zq_u (zq_u H 60 39 (nI (pm + 1))) 60 40 (nI s) 82) 0 0 7), sfr_w (by omega) (sfr_u60 (by omega) (sfr_u60 (by omega) hs)), fun j hj => ?_, ?_, fun Q => ?_⟩
      · rw [zq_w_ne (by omega), zq_u_ne (by omega), zq_u_ne (by omega), zq_w_ne (by omega), zq_u_ne (by omega), zq_u_ne (by omega)]
        exact ⟨rfl, rfl⟩
      · unfold ex
        rw [hbs]
        refine ⟨?_, ⟨by omega, ?_, fun j hj => ?_⟩, ?_, r4, fun j hj => ?_⟩
        · rw [zq_w_ne (by omega), zq_u_kn (by omega), zq_u_eq]
        · rw [zq_w_ne (by omega), zq_u_eq]
        · rw [zq_w_eq, pk_cpy_in (by omega) (by omega), eh, show 0 + (j - 0) = j by omega]; exact hp j hj
        · rw [zq_w_ne (by omega), zq_u_kn (by omega), zq_u_kn (by omega)]; exact r3
        · rw [zq_w_ne (by omega), zq_u_ne (by omega), zq_u_ne (by omega)]; exact r5 j hj
      · rw [zr171_32]
        simp only [zr171_0, zr171_1, zr171_4, zr171_5, zr171_6, zr171_7, zr171_10, zr171_11, zr171_14, zr171_17, zr171_18, zr171_19, zr171_22, zr171_23, zr171_25, zr171_26, zr171_29, zr171_30, zr171_31, zr171_34, zr171_37, zr171_39, zr171_40, zr171_43, zr171_44, zr171_45, zr171_48, zr171_49, zr171_50, zr171_53, zr171_54, zr171_57, zr171_58, zr171_59, zr171_60, zr171_63, zr171_66, zr171_67, zr171_68, zr171_71, zr171_72, zr171_73, zr171_76, zr171_77, zr171_80, zr171_81, zr171_84, zr171_87, zr171_90, zr171_91, zr171_94, zr171_96, zr171_97, zr171_98, zr171_101, zr171_103, zr171_104, zr171_105, zr171_106, zr171_107, zr171_110, zr171_111, zr171_113, zr171_114, zr171_117, zr171_118, zr171_121, zr171_123, zr171_124, zr171_125, zr171_128, zr171_131, zr171_132, zr171_135, zr171_137, zr171_138, zr171_141, zr171_142, zr171_145, zr171_147, zr171_148, zr171_149, zr171_150, zr171_151, zr171_152, zr171_155, zr171_157, zr171_158, zr171_161, zr171_164, zr171_165, zr171_168, zr171_170, zr171_171, zr171_172, zr171_174, zr171_175, zr171_178, zr171_181, zr171_182, zr171_184, zr171_187, zr171_188, zr171_191, zr171_192, zr171_195, zr171_198, zr171_204, zr171_206, zr171_209, zr171_210, zr171_212, zr171_215, zr171_218, zs_m0 N, zs_m1 N, zs_m2 N, zh_m0 ca cb cs, zq_kill_int, zq_kill_ref, zq_kill_ret, zq_kill_null, zq_kill_long, zq_rf_some, zq_rf_none, true_and, and_true, true_implies, not_true_eq_false, not_false_eq_true, false_implies, Bool.true_eq_false, Bool.false_eq_true, nI_1, zb_i0, zb_i1, zb_i2, Option.toList_some, Option.toList_none, List.cons_append, List.nil_append, true_or, or_true, implies_true, zb_it, zb_if, zb_10, zb_00, zb_n5, zb_n2, zb_m1, zb_m3, zb_m9, or_true, true_or, or_false, false_or, q0, r1, e26, e40, eb, hlt, cc2, q1]
    have noupd : (nI s < H 60 40) = False → bsu bs s π = bs → ∃ H', sfr M H' ∧ (∀ j, j < k → H' 80 j = H 80 j ∧ H' 81 j = H 81 j) ∧ RS k H' (ex (okm W P may) W t 0 k M s π (pm, bs, fa, fl)) ∧ ∀ Q, zq_P (d + 5) 171 32 [.ref 60, .int (nI k), .int may, .int b0, .int (nI k)] [] (zq_SG N, H, hl, zq_HR ca cb cs) Q = zq_P (d + 5) 171 201 [.ref 60, .int (nI k), .int may, .int b0, .int (nI k)] [] (zq_SG N, H', hl, zq_HR ca cb cs) Q := by
      intro hlt hbs
      refine ⟨zq_u H 60 39 (nI (pm + 1)), sfr_u60 (by omega) hs, fun j hj => ?_, ?_, fun Q => ?_⟩
      · rw [zq_u_ne (by omega), zq_u_ne (by omega)]
        exact ⟨rfl, rfl⟩
      · unfold ex
        rw [hbs]
        refine ⟨zq_u_eq, ?_, ?_, r4, fun j hj => ?_⟩
        · revert r2
          unfold bsr
          rw [zq_u_kn (by omega), zq_u_ne (by omega)]
          exact id
        · rw [zq_u_kn (by omega)]; exact r3
        · rw [zq_u_ne (by omega)]; exact r5 j hj
      · rw [zr171_32]
        simp only [zr171_0, zr171_1, zr171_4, zr171_5, zr171_6, zr171_7, zr171_10, zr171_11, zr171_14, zr171_17, zr171_18, zr171_19, zr171_22, zr171_23, zr171_25, zr171_26, zr171_29, zr171_30, zr171_31, zr171_34, zr171_37, zr171_39, zr171_40, zr171_43, zr171_44, zr171_45, zr171_48, zr171_49, zr171_50, zr171_53, zr171_54, zr171_57, zr171_58, zr171_59, zr171_60, zr171_63, zr171_66, zr171_67, zr171_68, zr171_71, zr171_72, zr171_73, zr171_76, zr171_77, zr171_80, zr171_81, zr171_84, zr171_87, zr171_90, zr171_91, zr171_94, zr171_96, zr171_97, zr171_98, zr171_101, zr171_103, zr171_104, zr171_105, zr171_106, zr171_107, zr171_110, zr171_111, zr171_113, zr171_114, zr171_117, zr171_118, zr171_121, zr171_123, zr171_124, zr171_125, zr171_128, zr171_131, zr171_132, zr171_135, zr171_137, zr171_138, zr171_141, zr171_142, zr171_145, zr171_147, zr171_148, zr171_149, zr171_150, zr171_151, zr171_152, zr171_155, zr171_157, zr171_158, zr171_161, zr171_164, zr171_165, zr171_168, zr171_170, zr171_171, zr171_172, zr171_174, zr171_175, zr171_178, zr171_181, zr171_182, zr171_184, zr171_187, zr171_188, zr171_191, zr171_192, zr171_195, zr171_198, zr171_204, zr171_206, zr171_209, zr171_210, zr171_212, zr171_215, zr171_218, zs_m0 N, zs_m1 N, zs_m2 N, zh_m0 ca cb cs, zq_kill_int, zq_kill_ref, zq_kill_ret, zq_kill_null, zq_kill_long, zq_rf_some, zq_rf_none, true_and, and_true, true_implies, not_true_eq_false, not_false_eq_true, false_implies, Bool.true_eq_false, Bool.false_eq_true, nI_1, zb_i0, zb_i1, zb_i2, Option.toList_some, Option.toList_none, List.cons_append, List.nil_append, true_or, or_true, implies_true, zb_it, zb_if, zb_10, zb_00, zb_n5, zb_n2, zb_m1, zb_m3, zb_m9, or_true, true_or, or_false, false_or, q0, r1, e26, e40, eb, hlt, q1]
    cases bs with
    | none =>
      have r2' : H 60 40 = 1048576 := r2
      exact upd (by rw [r2']; exact eq_true ((nI_ltI (b := 1048576) (by omega) (by omega)).mpr (by omega))) rfl
    | some cr =>
      obtain ⟨c, ρ⟩ := cr
      obtain ⟨z1, z2, z3⟩ := r2
      by_cases hlt : s < c
      · exact upd (by rw [z2]; exact eq_true ((nI_ltI (by omega) (by omega)).mpr hlt)) (if_pos hlt)
      · exact noupd (by rw [z2]; exact eq_false (nI_nlt (by omega) (by omega))) (if_neg hlt)
  | succ m ihm =>
    intro k hk M s π a H hM hs hp hr hb hsk h80
    obtain ⟨⟨g1, g2, g3, g4⟩, g5, g6⟩ := id hM
    have q0 : (nI k < 0) = False := eq_false (nI_pos (by omega))
    have q1 : (nI k = nI n) = False := by rw [zb_eq (by omega) (by omega)]; exact eq_false (by omega)
    have q2 : (nI k < nI n) = True := eq_true ((nI_ltI (by omega) (by omega)).mpr (by omega))
    have x1 : zq_xS (nI k) 7 := zb_x (by omega) (by omega)
    have x2 : (nI k).toNatClampNeg = k := zb_cl (by omega)
    have x3 : zq_xS (nI (k + 1)) 7 := zb_x (by omega) (by omega)
    have x4 : (nI (k + 1)).toNatClampNeg = k + 1 := zb_cl (by omega)
    generalize hg : (fun w (a : exT) => if okm W P may M w = true then ex (okm W P may) W t m (k + 1) (zm_go M w) (s + t w) (upn π k w) (ent a (k + 1) (upn π k w)) else a) = g
    have hgo : ∀ w b, okm W P may M w = false → g w b = b := fun w b e => by rw [← hg]; exact if_neg (by rw [e]; decide)
    have hgy : ∀ w b, okm W P may M w = true → g w b = ex (okm W P may) W t m (k + 1) (zm_go M w) (s + t w) (upn π k w) (ent b (k + 1) (upn π k w)) := fun w b e => by rw [← hg]; exact if_pos e
    have hex : ex (okm W P may) W t (m + 1) k M s π a = fo g W a := by rw [← hg]; rfl
    rw [hex]
    have inner : ∀ u, u ≤ W → ∀ H, sfr M H → (∀ j, j < k → H 80 j = nI (π j)) → RS n H (fo g (W - u) a) → H 80 k = nI (W - u) - 1 → ∃ H', sfr M H' ∧ (∀ j, j < k → H' 80 j = H 80 j ∧ H' 81 j = H 81 j) ∧ RS n H' (fo g W a) ∧ ∀ Q, zq_P (d + 5) 171 32 [.ref 60, .int (nI n), .int may, .int b0, .int (nI k)] [] (zq_SG N, H, hl, zq_HR ca cb cs) Q = zq_P (d + 5) 171 201 [.ref 60, .int (nI n), .int may, .int b0, .int (nI k)] [] (zq_SG N, H', hl, zq_HR ca cb cs) Q := by
      intro u
      induction u using Nat.strongRecOn with
      | ind u ihu =>
        intro hu H hs hp hr h80
        obtain ⟨⟨n1, n2⟩, n3, n4⟩ := nxw_spec (ok := okm W P may M) u hu
        have hMH := sfr_Mok hs hM
        have eok : okm W P may H = okm W P may M := by
          funext w
          unfold okm
          rw [sfr_needs hs, sfr_cano hs]
        have nw := fun Q v => k_M_nextWay (N := N) (ca := ca) (cb := cb) (cs := cs) (d := d) (hl := hl) (Q := Q) (may := may) hMH u hu v
        rw [eok] at nw
        generalize hw0 : nxw (okm W P may M) W u = w0 at n1 n2 n3 n4 nw
        have hskip : fo g w0 a = fo g (W - u) a := fo_skip hgo n1 n3
        have y1 : zq_u H 80 k (nI w0) 80 k = nI w0 := zq_u_eq
        have y2 : zq_u H 80 k (nI w0) 60 10 = nI W := by rw [zq_u_ne (by omega)]; exact hMH.1.1
        by_cases hw : w0 < W
        · have hok := n4 hw
          have hw7 : w0 < 7 := by omega
          have lt0 : (nI w0 < nI W) = True := eq_true ((nI_ltI (by omega) (by omega)).mpr hw)
          have z1 : zq_xS (nI w0) 7 := zb_x (by omega) (by omega)
          have z2 : (nI w0).toNatClampNeg = w0 := zb_cl (by omega)
          have y3 : zq_u H 80 k (nI w0) 74 = M 74 := by rw [zq_u_ne (by omega)]; exact hs.1 74 (by omega) (by omega)
          have y4 : ∀ v, zq_u (zq_u H 80 k (nI w0)) 81 k v 80 k = nI w0 := fun v => by rw [zq_u_ne (by omega)]; exact y1
          generalize hH2 : zq_u (zq_u H 80 k (nI w0)) 81 k (M 74 w0) = H2
          have y5 : H2 80 k = nI w0 := by rw [← hH2]; exact y4 _
          have s2 : sfr M H2 := by rw [← hH2]; exact sfr_u81 (sfr_u80 hs)
          generalize hH4 : zq_u (zm_go H2 w0) 80 (k + 1) (-1) = H4
          have s4 : sfr (zm_go M w0) H4 := by rw [← hH4]; exact sfr_u80 (sfr_go s2)
          have o4 : ∀ j, j < k → H4 80 j = H 80 j ∧ H4 81 j = H 81 j := fun j hj => by
            rw [← hH4, zq_u_kn (by omega), zq_u_ne (by omega), zm_go_o (by omega) (by omega) (by omega), zm_go_o (by omega) (by omega) (by omega), ← hH2]
            refine ⟨?_, ?_⟩
            · rw [zq_u_ne (by omega), zq_u_kn (by omega)]
            · rw [zq_u_kn (by omega), zq_u_ne (by omega)]
          have o4k : H4 80 k = nI w0 ∧ H4 81 k = M 74 w0 ∧ H4 80 (k + 1) = -1 := by
            rw [← hH4, zq_u_kn (by omega), zq_u_ne (by omega), zm_go_o (by omega) (by omega) (by omega), zm_go_o (by omega) (by omega) (by omega), ← hH2]
            refine ⟨?_, zq_u_eq, zq_u_eq⟩
            rw [zq_u_ne (by omega), zq_u_eq]
          have r4 : RS n H4 (fo g w0 a) := by
            rw [hskip]
            refine RS_fr hr (fun f f1 f2 => ?_) ?_ ?_
            · rw [← hH4, zq_u_ne (by omega), zm_go_60, if_neg (by omega), if_neg (by omega), ← hH2, zq_u_ne (by omega), zq_u_ne (by omega)]
            · rw [← hH4, zq_u_ne (by omega), zm_go_o (by omega) (by omega) (by omega), ← hH2, zq_u_ne (by omega), zq_u_ne (by omega)]
            · rw [← hH4, zq_u_ne (by omega), zm_go_o (by omega) (by omega) (by omega), ← hH2, zq_u_ne (by omega), zq_u_ne (by omega)]
          have p4 : ∀ j, j < k + 1 → H4 80 j = nI (upn π k w0 j) := fun j hj => by
            by_cases e : j = k
            · subst e; rw [upn_eq]; exact o4k.1
            · rw [upn_ne e, (o4 j (by omega)).1]; exact hp j (by omega)
          -- a day farther
          have enter : ∃ H5, sfr (zm_go M w0) H5 ∧ (∀ j, H5 80 j = H4 80 j ∧ H5 81 j = H4 81 j) ∧ RS n H5 (ent (fo g w0 a) (k + 1) (upn π k w0)) ∧ ∀ Q, zq_P (d + 5) 171 32 [.ref 60, .int (nI n), .int may, .int b0, .int (nI k)] [] (zq_SG N, H, hl, zq_HR ca cb cs) Q = zq_P (d + 5) 171 32 [.ref 60, .int (nI n), .int may, .int b0, .int (nI (k + 1))] [] (zq_SG N, H5, hl, zq_HR ca cb cs) Q := by
            obtain ⟨b1, b2, b3, b4, b5⟩ := r4
            by_cases hf : (fo g w0 a).2.2.1 < k + 1
            · have qf : (nI (fo g w0 a).2.2.1 < nI (k + 1)) = True := eq_true ((nI_ltI (by omega) (by omega)).mpr hf)
              refine ⟨zq_w (zq_u H4 60 41 (nI (k + 1))) 83 (va_cpy (zq_u H4 60 41 (nI (k + 1)) 80) (zq_u H4 60 41 (nI (k + 1)) 83) 0 0 7), sfr_w (by omega) (sfr_u60 (by omega) s4), fun j => ?_, ?_, fun Q => ?_⟩
              · rw [zq_w_ne (by omega), zq_u_ne (by omega), zq_w_ne (by omega), zq_u_ne (by omega)]; exact ⟨rfl, rfl⟩
              · have ee : ent (fo g w0 a) (k + 1) (upn π k w0) = ((fo g w0 a).1, (fo g w0 a).2.1, k + 1, upn π k w0) := if_pos hf
                rw [ee]
                refine ⟨?_, ?_, ?_, by dsimp only; omega, fun j hj => ?_⟩
                · rw [zq_w_ne (by omega), zq_u_kn (by omega)]; exact b1
                · revert b2
                  unfold bsr
                  rw [zq_w_ne (by omega), zq_u_kn (by omega), zq_w_ne (by omega), zq_u_ne (by omega)]
                  exact id
                · rw [zq_w_ne (by omega), zq_u_eq]
                · dsimp only at hj
                  rw [zq_w_eq, pk_cpy_in (by omega) (by omega), zq_u_ne (by omega), show 0 + (j - 0) = j by omega]; exact p4 j hj
              · rw [zr171_32]
                simp only [zr171_0, zr171_1, zr171_4, zr171_5, zr171_6, zr171_7, zr171_10, zr171_11, zr171_14, zr171_17, zr171_18, zr171_19, zr171_22, zr171_23, zr171_25, zr171_26, zr171_29, zr171_30, zr171_31, zr171_34, zr171_37, zr171_39, zr171_40, zr171_43, zr171_44, zr171_45, zr171_48, zr171_49, zr171_50, zr171_53, zr171_54, zr171_57, zr171_58, zr171_59, zr171_60, zr171_63, zr171_66, zr171_67, zr171_68, zr171_71, zr171_72, zr171_73, zr171_76, zr171_77, zr171_80, zr171_81, zr171_84, zr171_87, zr171_90, zr171_91, zr171_94, zr171_96, zr171_97, zr171_98, zr171_101, zr171_103, zr171_104, zr171_105, zr171_106, zr171_107, zr171_110, zr171_111, zr171_113, zr171_114, zr171_117, zr171_118, zr171_121, zr171_123, zr171_124, zr171_125, zr171_128, zr171_131, zr171_132, zr171_135, zr171_137, zr171_138, zr171_141, zr171_142, zr171_145, zr171_147, zr171_148, zr171_149, zr171_150, zr171_151, zr171_152, zr171_155, zr171_157, zr171_158, zr171_161, zr171_164, zr171_165, zr171_168, zr171_170, zr171_171, zr171_172, zr171_174, zr171_175, zr171_178, zr171_181, zr171_182, zr171_184, zr171_187, zr171_188, zr171_191, zr171_192, zr171_195, zr171_198, zr171_204, zr171_206, zr171_209, zr171_210, zr171_212, zr171_215, zr171_218, zr173_0, zr173_1, zr173_3, zr173_4, zr173_7, zr173_10, zr173_11, zr173_12, zr173_15, zr173_16, zr173_17, zr173_18, zr173_19, zr173_22, zr173_23, zr173_24, zr173_27, zr173_30, zr173_33, zr173_36, zr173_37, zs_m0 N, zs_m1 N, zs_m2 N, zh_m0 ca cb cs, zq_kill_int, zq_kill_ref, zq_kill_ret, zq_kill_null, zq_kill_long, zq_rf_some, zq_rf_none, true_and, and_true, true_implies, not_true_eq_false, not_false_eq_true, false_implies, Bool.true_eq_false, Bool.false_eq_true, nI_1, zb_i0, zb_i1, zb_i2, Option.toList_some, Option.toList_none, List.cons_append, List.nil_append, true_or, or_true, implies_true, zb_it, zb_if, zb_10, zb_00, zb_n5, zb_n2, zb_m1, zb_m3, zb_m9, or_true, true_or, or_false, false_or, q0, q1, q2, x1, x2, h80, zb_sac, nw, y1, y2, lt0, z1, z2, y3, y4, hH2, y5, k_M_play hw7, x3, x4, hH4, b3, qf, cc3]
            · have qf : (nI (fo g w0 a).2.2.1 < nI (k + 1)) = False := eq_false (nI_nlt (by omega) (by omega))
              refine ⟨H4, s4, fun j => ⟨rfl, rfl⟩, ?_, fun Q => ?_⟩
              · have ee : ent (fo g w0 a) (k + 1) (upn π k w0) = fo g w0 a := if_neg hf
                rw [ee]
                exact ⟨b1, b2, b3, b4, b5⟩
              · rw [zr171_32]
                simp only [zr171_0, zr171_1, zr171_4, zr171_5, zr171_6, zr171_7, zr171_10, zr171_11, zr171_14, zr171_17, zr171_18, zr171_19, zr171_22, zr171_23, zr171_25, zr171_26, zr171_29, zr171_30, zr171_31, zr171_34, zr171_37, zr171_39, zr171_40, zr171_43, zr171_44, zr171_45, zr171_48, zr171_49, zr171_50, zr171_53, zr171_54, zr171_57, zr171_58, zr171_59, zr171_60, zr171_63, zr171_66, zr171_67, zr171_68, zr171_71, zr171_72, zr171_73, zr171_76, zr171_77, zr171_80, zr171_81, zr171_84, zr171_87, zr171_90, zr171_91, zr171_94, zr171_96, zr171_97, zr171_98, zr171_101, zr171_103, zr171_104, zr171_105, zr171_106, zr171_107, zr171_110, zr171_111, zr171_113, zr171_114, zr171_117, zr171_118, zr171_121, zr171_123, zr171_124, zr171_125, zr171_128, zr171_131, zr171_132, zr171_135, zr171_137, zr171_138, zr171_141, zr171_142, zr171_145, zr171_147, zr171_148, zr171_149, zr171_150, zr171_151, zr171_152, zr171_155, zr171_157, zr171_158, zr171_161, zr171_164, zr171_165, zr171_168, zr171_170, zr171_171, zr171_172, zr171_174, zr171_175, zr171_178, zr171_181, zr171_182, zr171_184, zr171_187, zr171_188, zr171_191, zr171_192, zr171_195, zr171_198, zr171_204, zr171_206, zr171_209, zr171_210, zr171_212, zr171_215, zr171_218, zr173_0, zr173_1, zr173_3, zr173_4, zr173_7, zr173_10, zr173_11, zr173_12, zr173_15, zr173_16, zr173_17, zr173_18, zr173_19, zr173_22, zr173_23, zr173_24, zr173_27, zr173_30, zr173_33, zr173_36, zr173_37, zs_m0 N, zs_m1 N, zs_m2 N, zh_m0 ca cb cs, zq_kill_int, zq_kill_ref, zq_kill_ret, zq_kill_null, zq_kill_long, zq_rf_some, zq_rf_none, true_and, and_true, true_implies, not_true_eq_false, not_false_eq_true, false_implies, Bool.true_eq_false, Bool.false_eq_true, nI_1, zb_i0, zb_i1, zb_i2, Option.toList_some, Option.toList_none, List.cons_append, List.nil_append, true_or, or_true, implies_true, zb_it, zb_if, zb_10, zb_00, zb_n5, zb_n2, zb_m1, zb_m3, zb_m9, or_true, true_or, or_false, false_or, q0, q1, q2, x1, x2, h80, zb_sac, nw, y1, y2, lt0, z1, z2, y3, y4, hH2, y5, k_M_play hw7, x3, x4, hH4, b3, qf]
          obtain ⟨H5, s5, o5, r5, e5⟩ := enter
          have b26 : zm_go M w0 60 26 - b0 = nI (s + t w0) := by
            rw [zm_go_60, if_neg (by omega), if_pos rfl, zb_subadd, hb, (g6 w0 hw).1, nI_add]
          have t18 := (g6 w0 hw).2
          obtain ⟨H6, s6, o6, r6, e6⟩ := ihm (k + 1) (by omega) (zm_go M w0) (s + t w0) (upn π k w0) _ H5 (hM.go hw) s5 (fun j hj => by rw [(o5 j).1]; exact p4 j hj) r5 b26 (by omega) (by rw [(o5 _).1]; exact o4k.2.2)
          have h6k : H6 80 k = nI w0 ∧ H6 81 k = M 74 w0 := by rw [(o6 k (by omega)).1, (o6 k (by omega)).2, (o5 k).1, (o5 k).2]; exact ⟨o4k.1, o4k.2.1⟩
          have s7 := sfr_mtb s6 h6k.2
          have mo : ∀ a, a ≠ 60 → a ≠ 74 → a ≠ 75 → mtb H6 k w0 a = H6 a := fun a a1 a2 a3 => by unfold mtb; rw [zq_u_ne a1, zq_u_ne a3, zq_u_ne a2, zq_u_ne a1]
          have mo60 : ∀ f, f ≠ 25 → f ≠ 26 → mtb H6 k w0 60 f = H6 60 f := fun f f1 f2 => by unfold mtb; rw [zq_u_kn f2, zq_u_ne (by omega), zq_u_ne (by omega), zq_u_kn f1]
          have r7 : RS n (mtb H6 k w0) (fo g (w0 + 1) a) := by
            rw [fo_s, hgy w0 _ hok]
            exact RS_fr r6 (fun f f1 f2 => mo60 f (by omega) (by omega)) (mo _ (by omega) (by omega) (by omega)) (mo _ (by omega) (by omega) (by omega))
          have hle : W - (W - (w0 + 1)) = w0 + 1 := by omega
          obtain ⟨H8, s8, o8, r8, e8⟩ := ihu (W - (w0 + 1)) (by omega) (by omega) (mtb H6 k w0) s7 (fun j hj => by rw [mo _ (by omega) (by omega) (by omega), (o6 j (by omega)).1, (o5 j).1, (o4 j hj).1]; exact hp j hj) (by rw [hle]; exact r7) (by rw [hle, mo _ (by omega) (by omega) (by omega), h6k.1, nI_pred])
          refine ⟨H8, s8, fun j hj => ?_, r8, fun Q => ?_⟩
          · rw [(o8 j hj).1, (o8 j hj).2, mo _ (by omega) (by omega) (by omega), mo _ (by omega) (by omega) (by omega), (o6 j (by omega)).1, (o6 j (by omega)).2, (o5 j).1, (o5 j).2]
            exact o4 j hj
          · rw [e5, e6]
            have em : nI (k + 1) + (-1) = nI k := pk_m1 k
            rw [zr171_201]
            simp only [zr171_0, zr171_1, zr171_4, zr171_5, zr171_6, zr171_7, zr171_10, zr171_11, zr171_14, zr171_17, zr171_18, zr171_19, zr171_22, zr171_23, zr171_25, zr171_26, zr171_29, zr171_30, zr171_31, zr171_34, zr171_37, zr171_39, zr171_40, zr171_43, zr171_44, zr171_45, zr171_48, zr171_49, zr171_50, zr171_53, zr171_54, zr171_57, zr171_58, zr171_59, zr171_60, zr171_63, zr171_66, zr171_67, zr171_68, zr171_71, zr171_72, zr171_73, zr171_76, zr171_77, zr171_80, zr171_81, zr171_84, zr171_87, zr171_90, zr171_91, zr171_94, zr171_96, zr171_97, zr171_98, zr171_101, zr171_103, zr171_104, zr171_105, zr171_106, zr171_107, zr171_110, zr171_111, zr171_113, zr171_114, zr171_117, zr171_118, zr171_121, zr171_123, zr171_124, zr171_125, zr171_128, zr171_131, zr171_132, zr171_135, zr171_137, zr171_138, zr171_141, zr171_142, zr171_145, zr171_147, zr171_148, zr171_149, zr171_150, zr171_151, zr171_152, zr171_155, zr171_157, zr171_158, zr171_161, zr171_164, zr171_165, zr171_168, zr171_170, zr171_171, zr171_172, zr171_174, zr171_175, zr171_178, zr171_181, zr171_182, zr171_184, zr171_187, zr171_188, zr171_191, zr171_192, zr171_195, zr171_198, zr171_204, zr171_206, zr171_209, zr171_210, zr171_212, zr171_215, zr171_218, zs_m0 N, zs_m1 N, zs_m2 N, zh_m0 ca cb cs, zq_kill_int, zq_kill_ref, zq_kill_ret, zq_kill_null, zq_kill_long, zq_rf_some, zq_rf_none, true_and, and_true, true_implies, not_true_eq_false, not_false_eq_true, false_implies, Bool.true_eq_false, Bool.false_eq_true, nI_1, zb_i0, zb_i1, zb_i2, Option.toList_some, Option.toList_none, List.cons_append, List.nil_append, true_or, or_true, implies_true, zb_it, zb_if, zb_10, zb_00, zb_n5, zb_n2, zb_m1, zb_m3, zb_m9, or_true, true_or, or_false, false_or, em, q0, k_M_takeBack (show k < 7 by omega) hw7 h6k.1]
            exact e8 Q
        · have hWe : w0 = W := by omega
          have lt0 : (nI w0 < nI W) = False := eq_false (nI_nlt (by omega) (by omega))
          refine ⟨zq_u H 80 k (nI w0), sfr_u80 hs, fun j hj => ⟨zq_u_kn (by omega), by rw [zq_u_ne (by omega)]⟩, ?_, fun Q => ?_⟩
          · rw [← hskip, hWe] at hr
            exact RS_fr hr (fun f _ _ => by rw [zq_u_ne (by omega)]) (zq_u_ne (by omega)) (zq_u_ne (by omega))
          · rw [zr171_32]
            simp only [zr171_0, zr171_1, zr171_4, zr171_5, zr171_6, zr171_7, zr171_10, zr171_11, zr171_14, zr171_17, zr171_18, zr171_19, zr171_22, zr171_23, zr171_25, zr171_26, zr171_29, zr171_30, zr171_31, zr171_34, zr171_37, zr171_39, zr171_40, zr171_43, zr171_44, zr171_45, zr171_48, zr171_49, zr171_50, zr171_53, zr171_54, zr171_57, zr171_58, zr171_59, zr171_60, zr171_63, zr171_66, zr171_67, zr171_68, zr171_71, zr171_72, zr171_73, zr171_76, zr171_77, zr171_80, zr171_81, zr171_84, zr171_87, zr171_90, zr171_91, zr171_94, zr171_96, zr171_97, zr171_98, zr171_101, zr171_103, zr171_104, zr171_105, zr171_106, zr171_107, zr171_110, zr171_111, zr171_113, zr171_114, zr171_117, zr171_118, zr171_121, zr171_123, zr171_124, zr171_125, zr171_128, zr171_131, zr171_132, zr171_135, zr171_137, zr171_138, zr171_141, zr171_142, zr171_145, zr171_147, zr171_148, zr171_149, zr171_150, zr171_151, zr171_152, zr171_155, zr171_157, zr171_158, zr171_161, zr171_164, zr171_165, zr171_168, zr171_170, zr171_171, zr171_172, zr171_174, zr171_175, zr171_178, zr171_181, zr171_182, zr171_184, zr171_187, zr171_188, zr171_191, zr171_192, zr171_195, zr171_198, zr171_204, zr171_206, zr171_209, zr171_210, zr171_212, zr171_215, zr171_218, zr173_0, zr173_1, zr173_3, zr173_4, zr173_7, zr173_10, zr173_11, zr173_12, zr173_15, zr173_16, zr173_17, zr173_18, zr173_19, zr173_22, zr173_23, zr173_24, zr173_27, zr173_30, zr173_33, zr173_36, zr173_37, zs_m0 N, zs_m1 N, zs_m2 N, zh_m0 ca cb cs, zq_kill_int, zq_kill_ref, zq_kill_ret, zq_kill_null, zq_kill_long, zq_rf_some, zq_rf_none, true_and, and_true, true_implies, not_true_eq_false, not_false_eq_true, false_implies, Bool.true_eq_false, Bool.false_eq_true, nI_1, zb_i0, zb_i1, zb_i2, Option.toList_some, Option.toList_none, List.cons_append, List.nil_append, true_or, or_true, implies_true, zb_it, zb_if, zb_10, zb_00, zb_n5, zb_n2, zb_m1, zb_m3, zb_m9, or_true, true_or, or_false, false_or, q0, q1, q2, x1, x2, h80, zb_sac, nw, y1, y2, lt0]
    have hWW : W - W = 0 := by omega
    exact inner W (Nat.le_refl _) H hs hp (by rw [hWW]; exact hr) (by rw [hWW]; exact h80)
end Z50
