/-! The small machine's rows in the form in which methods are read off: side conditions first, then what follows -/
def zq_iS (S : zq_S) (a c : Nat) : Prop := zq_is S a c
def zq_ln (S : zq_S) (a : Nat) : Nat := (S.2.2 a).2
/-- ints that may be read; written -/
def zq_aS (S : zq_S) (a : Nat) : Prop := (a < S.1 ∨ a = 1000) ∧ (S.2.2 a).1 = 0
def zq_aW (S : zq_S) (a : Nat) : Prop := a < S.1 ∧ a ≠ 1000 ∧ (S.2.2 a).1 = 0
def zq_rS (S : zq_S) (a : Nat) : Prop := a < S.1 ∧ a ≠ 1000 ∧ (S.2.2 a).1 = 1
def zq_lS (S : zq_S) (a : Nat) : Prop := zq_aS S a ∨ zq_rS S a
def zq_vS (S : zq_S) (a c : Nat) : Prop := a ≠ 1000 ∧ zq_is S a c
/-- an index within -/
def zq_xS (i : Int32) (n : Nat) : Prop := zq_ix i n
theorem zq_kill_int (x : Int32) : zq_kill (.int x) = .int x := rfl
theorem zq_kill_ref (x : Nat) : zq_kill (.ref x) = .ref x := rfl
theorem zq_kill_null : zq_kill .null = .null := rfl
theorem zq_kill_ret (x : Nat) : zq_kill (.retAddr x) = .retAddr x := rfl
theorem zq_kill_long (x : Int64) : zq_kill (.long x) = .retAddr 0 := rfl
theorem zq_kill_kill (v : Value) : zq_kill (zq_kill v) = zq_kill v := by cases v <;> rfl
theorem zq_rf_some (a : Nat) : va_rf (some a) = .ref a := rfl
theorem zq_rf_none : va_rf none = .null := rfl
section ZL
variable {d y pc : Nat} {L st : List Value} {S : zq_S} {hi : zq_I} {hl : zq_J} {hr : zq_O} {Q : Option Value → zq_G → Prop} {a k : Nat}
theorem zr_ldc {q : Nat × Nat × Int32 × Nat} (hc : zq_cd y pc = some (.ldc k, 2)) (hq : zq_kq (zq_own y) k = some q) : zq_P d y pc L st (S, hi, hl, hr) Q = zq_P d y (pc + 2) L (.int q.2.2.1 :: st) (S, hi, hl, hr) Q :=
  zq_P_op hc (by show (zq_kq (zq_own y) k).map _ = _; rw [hq]; rfl)
theorem zr_ldcw {q : Nat × Nat × Int32 × Nat} (hc : zq_cd y pc = some (.ldc_w k, 3)) (hq : zq_kq (zq_own y) k = some q) : zq_P d y pc L st (S, hi, hl, hr) Q = zq_P d y (pc + 3) L (.int q.2.2.1 :: st) (S, hi, hl, hr) Q :=
  zq_P_op hc (by show (zq_kq (zq_own y) k).map _ = _; rw [hq]; rfl)
theorem zr_ldc2 {q : Nat × Nat × Int64 × Nat} (hc : zq_cd y pc = some (.ldc2_w k, 3)) (hq : zq_jq (zq_own y) k = some q) : zq_P d y pc L st (S, hi, hl, hr) Q = zq_P d y (pc + 3) L (.long q.2.2.1 :: st) (S, hi, hl, hr) Q :=
  zq_P_op hc (by show (zq_jq (zq_own y) k).map _ = _; rw [hq]; rfl)
theorem zr_gen {L2 st2 : List Value} {g g2 : zq_G} {i : Instr} {len : Nat} {c : Prop} {dc : Decidable c} (hc : zq_cd y pc = some (i, len)) (ho : zq_op y i L st g = @ite _ c dc (some (L2, st2, g2)) none) (hj : zq_jmp pc i st = none) (hr2 : zq_ret y i st = none) (hi2 : zq_inv y i st g = none) : zq_P d y pc L st g Q = (c ∧ zq_P d y (pc + len) L2 st2 g2 Q) := by
  by_cases h : c
  · rw [zq_P_op hc (ho.trans (if_pos h))]
    exact propext ⟨fun z => ⟨h, z⟩, fun z => z.2⟩
  · rw [zq_P_no hc (ho.trans (if_neg h)) hj hr2 hi2]
    exact propext ⟨False.elim, fun z => h z.1⟩
theorem zr_get {q : Nat × Nat × Nat × Nat × Nat × Nat} (hc : zq_cd y pc = some (.getfield k, 3)) (hq : zq_fq (zq_own y) k = some q) : zq_P d y pc L (.ref a :: st) (S, hi, hl, hr) Q = (zq_iS S a q.2.2.1 ∧ zq_P d y (pc + 3) L (zq_gv q.2.2.1 q.2.2.2.1 a (S, hi, hl, hr) :: st) (S, hi, hl, hr) Q) := by
  have ho : zq_op y (.getfield k) L (.ref a :: st) (S, hi, hl, hr) = if zq_is S a q.2.2.1 then some (L, zq_gv q.2.2.1 q.2.2.2.1 a (S, hi, hl, hr) :: st, (S, hi, hl, hr)) else none := by
    show zq_getf y k L (.ref a :: st) (S, hi, hl, hr) = _
    unfold zq_getf
    rw [hq]
  exact zr_gen hc ho rfl rfl rfl
theorem zr_getI {q : Nat × Nat × Nat × Nat × Nat × Nat} (hc : zq_cd y pc = some (.getfield k, 3)) (hq : zq_fq (zq_own y) k = some q) (ht : zq_ft q.2.2.1 q.2.2.2.1 = 0) : zq_P d y pc L (.ref a :: st) (S, hi, hl, hr) Q = (zq_iS S a q.2.2.1 ∧ zq_P d y (pc + 3) L (.int (hi a q.2.2.2.1) :: st) (S, hi, hl, hr) Q) := by
  rw [zr_get hc hq]
  simp only [zq_gv, ht]
theorem zr_getJ {q : Nat × Nat × Nat × Nat × Nat × Nat} (hc : zq_cd y pc = some (.getfield k, 3)) (hq : zq_fq (zq_own y) k = some q) (ht : zq_ft q.2.2.1 q.2.2.2.1 = 1) : zq_P d y pc L (.ref a :: st) (S, hi, hl, hr) Q = (zq_iS S a q.2.2.1 ∧ zq_P d y (pc + 3) L (.long (hl a q.2.2.2.1) :: st) (S, hi, hl, hr) Q) := by
  rw [zr_get hc hq]
  simp only [zq_gv, ht]
theorem zr_getA {q : Nat × Nat × Nat × Nat × Nat × Nat} (hc : zq_cd y pc = some (.getfield k, 3)) (hq : zq_fq (zq_own y) k = some q) (ht : zq_ft q.2.2.1 q.2.2.2.1 = 2) : zq_P d y pc L (.ref a :: st) (S, hi, hl, hr) Q = (zq_iS S a q.2.2.1 ∧ zq_P d y (pc + 3) L (va_rf (hr a q.2.2.2.1) :: st) (S, hi, hl, hr) Q) := by
  rw [zr_get hc hq]
  simp only [zq_gv, ht]
theorem zr_put {q : Nat × Nat × Nat × Nat × Nat × Nat} {v : Value} {g2 : zq_G} (hc : zq_cd y pc = some (.putfield k, 3)) (hq : zq_fq (zq_own y) k = some q) (hw : zq_wf y q.2.2.1 q.2.2.2.1 q.2.2.2.2.1 = true) (hv : zq_pv q.2.2.1 q.2.2.2.1 a v (S, hi, hl, hr) = some g2) : zq_P d y pc L (v :: .ref a :: st) (S, hi, hl, hr) Q = (zq_iS S a q.2.2.1 ∧ zq_P d y (pc + 3) L st g2 Q) := by
  have ho : zq_op y (.putfield k) L (v :: .ref a :: st) (S, hi, hl, hr) = if zq_is S a q.2.2.1 ∧ zq_wf y q.2.2.1 q.2.2.2.1 q.2.2.2.2.1 = true then some (L, st, g2) else none := by
    show zq_putf y k L (v :: .ref a :: st) (S, hi, hl, hr) = _
    unfold zq_putf
    rw [hq]
    dsimp only
    rw [hv]
  rw [zr_gen hc ho rfl rfl rfl]
  exact propext ⟨fun z => ⟨z.1.1, z.2⟩, fun z => ⟨⟨z.1, hw⟩, z.2⟩⟩
theorem zr_putI {q : Nat × Nat × Nat × Nat × Nat × Nat} {x : Int32} (hc : zq_cd y pc = some (.putfield k, 3)) (hq : zq_fq (zq_own y) k = some q) (hw : zq_wf y q.2.2.1 q.2.2.2.1 q.2.2.2.2.1 = true) (ht : zq_ft q.2.2.1 q.2.2.2.1 = 0) : zq_P d y pc L (.int x :: .ref a :: st) (S, hi, hl, hr) Q = (zq_iS S a q.2.2.1 ∧ zq_P d y (pc + 3) L st (S, zq_u hi a q.2.2.2.1 x, hl, hr) Q) :=
  zr_put hc hq hw (by simp only [zq_pv, ht])
theorem zr_putJ {q : Nat × Nat × Nat × Nat × Nat × Nat} {x : Int64} (hc : zq_cd y pc = some (.putfield k, 3)) (hq : zq_fq (zq_own y) k = some q) (hw : zq_wf y q.2.2.1 q.2.2.2.1 q.2.2.2.2.1 = true) (ht : zq_ft q.2.2.1 q.2.2.2.1 = 1) : zq_P d y pc L (.long x :: .ref a :: st) (S, hi, hl, hr) Q = (zq_iS S a q.2.2.1 ∧ zq_P d y (pc + 3) L st (S, hi, zq_u hl a q.2.2.2.1 x, hr) Q) :=
  zr_put hc hq hw (by simp only [zq_pv, ht])
theorem zr_putA {q : Nat × Nat × Nat × Nat × Nat × Nat} {x : Nat} (hc : zq_cd y pc = some (.putfield k, 3)) (hq : zq_fq (zq_own y) k = some q) (hw : zq_wf y q.2.2.1 q.2.2.2.1 q.2.2.2.2.1 = true) (ht : zq_ft q.2.2.1 q.2.2.2.1 = 2) : zq_P d y pc L (.ref x :: .ref a :: st) (S, hi, hl, hr) Q = (zq_iS S a q.2.2.1 ∧ zq_P d y (pc + 3) L st (S, hi, hl, zq_u hr a q.2.2.2.1 (some x)) Q) :=
  zr_put hc hq hw (by simp only [zq_pv, ht])
theorem zr_iald {i : Int32} (hc : zq_cd y pc = some (.iaload, 1)) : zq_P d y pc L (.int i :: .ref a :: st) (S, hi, hl, hr) Q = (zq_aS S a ∧ zq_xS i (zq_ln S a) ∧ zq_P d y (pc + 1) L (.int (hi a i.toNatClampNeg) :: st) (S, hi, hl, hr) Q) := by
  have ho : zq_op y .iaload L (.int i :: .ref a :: st) (S, hi, hl, hr) = if (a < S.1 ∨ a = 1000) ∧ (S.2.2 a).1 = 0 ∧ zq_ix i (S.2.2 a).2 then some (L, .int (hi a i.toNatClampNeg) :: st, (S, hi, hl, hr)) else none := rfl
  rw [zr_gen hc ho rfl rfl rfl]
  exact propext ⟨fun z => ⟨⟨z.1.1, z.1.2.1⟩, z.1.2.2, z.2⟩, fun z => ⟨⟨z.1.1, z.1.2, z.2.1⟩, z.2.2⟩⟩
theorem zr_iast {i x : Int32} (hc : zq_cd y pc = some (.iastore, 1)) : zq_P d y pc L (.int x :: .int i :: .ref a :: st) (S, hi, hl, hr) Q = (zq_aW S a ∧ zq_xS i (zq_ln S a) ∧ zq_P d y (pc + 1) L st (S, zq_u hi a i.toNatClampNeg x, hl, hr) Q) := by
  have ho : zq_op y .iastore L (.int x :: .int i :: .ref a :: st) (S, hi, hl, hr) = if a < S.1 ∧ a ≠ 1000 ∧ (S.2.2 a).1 = 0 ∧ zq_ix i (S.2.2 a).2 then some (L, st, (S, zq_u hi a i.toNatClampNeg x, hl, hr)) else none := rfl
  rw [zr_gen hc ho rfl rfl rfl]
  exact propext ⟨fun z => ⟨⟨z.1.1, z.1.2.1, z.1.2.2.1⟩, z.1.2.2.2, z.2⟩, fun z => ⟨⟨z.1.1, z.1.2.1, z.1.2.2, z.2.1⟩, z.2.2⟩⟩
theorem zr_aald {i : Int32} (hc : zq_cd y pc = some (.aaload, 1)) : zq_P d y pc L (.int i :: .ref a :: st) (S, hi, hl, hr) Q = (zq_rS S a ∧ zq_xS i (zq_ln S a) ∧ zq_P d y (pc + 1) L (va_rf (hr a i.toNatClampNeg) :: st) (S, hi, hl, hr) Q) := by
  have ho : zq_op y .aaload L (.int i :: .ref a :: st) (S, hi, hl, hr) = if a < S.1 ∧ a ≠ 1000 ∧ (S.2.2 a).1 = 1 ∧ zq_ix i (S.2.2 a).2 then some (L, va_rf (hr a i.toNatClampNeg) :: st, (S, hi, hl, hr)) else none := rfl
  rw [zr_gen hc ho rfl rfl rfl]
  exact propext ⟨fun z => ⟨⟨z.1.1, z.1.2.1, z.1.2.2.1⟩, z.1.2.2.2, z.2⟩, fun z => ⟨⟨z.1.1, z.1.2.1, z.1.2.2, z.2.1⟩, z.2.2⟩⟩
theorem zr_alen (hc : zq_cd y pc = some (.arraylength, 1)) : zq_P d y pc L (.ref a :: st) (S, hi, hl, hr) Q = (zq_lS S a ∧ zq_P d y (pc + 1) L (.int (nI (zq_ln S a)) :: st) (S, hi, hl, hr) Q) := by
  have ho : zq_op y .arraylength L (.ref a :: st) (S, hi, hl, hr) = if (a < S.1 ∨ a = 1000) ∧ (S.2.2 a).1 = 0 then some (L, .int (Int32.ofNat (S.2.2 a).2) :: st, (S, hi, hl, hr)) else if a < S.1 ∧ a ≠ 1000 ∧ (S.2.2 a).1 = 1 then some (L, .int (Int32.ofNat (S.2.2 a).2) :: st, (S, hi, hl, hr)) else none := rfl
  by_cases h : (a < S.1 ∨ a = 1000) ∧ (S.2.2 a).1 = 0
  · rw [zq_P_op hc (ho.trans (if_pos h))]
    exact (propext ⟨fun z => ⟨Or.inl h, z⟩, fun z => z.2⟩)
  · rw [zr_gen hc (ho.trans (if_neg h)) rfl rfl rfl]
    exact (propext ⟨fun z => ⟨Or.inr z.1, z.2⟩, fun z => ⟨z.1.elim (fun q => absurd q h) id, z.2⟩⟩)
theorem zr_idiv {x z : Int32} (hc : zq_cd y pc = some (.idiv, 1)) : zq_P d y pc L (.int z :: .int x :: st) (S, hi, hl, hr) Q = (¬ z = 0 ∧ zq_P d y (pc + 1) L (.int (x / z) :: st) (S, hi, hl, hr) Q) := by
  have ho : zq_op y .idiv L (.int z :: .int x :: st) (S, hi, hl, hr) = if z = 0 then none else some (L, .int (x / z) :: st, (S, hi, hl, hr)) := rfl
  by_cases h : z = 0
  · rw [zq_P_no hc (ho.trans (if_pos h)) rfl rfl rfl]
    exact propext ⟨False.elim, fun q => q.1 h⟩
  · rw [zq_P_op hc (ho.trans (if_neg h))]
    exact propext ⟨fun q => ⟨h, q⟩, fun q => q.2⟩
theorem zr_irem {x z : Int32} (hc : zq_cd y pc = some (.irem, 1)) : zq_P d y pc L (.int z :: .int x :: st) (S, hi, hl, hr) Q = (¬ z = 0 ∧ zq_P d y (pc + 1) L (.int (x - x / z * z) :: st) (S, hi, hl, hr) Q) := by
  have ho : zq_op y .irem L (.int z :: .int x :: st) (S, hi, hl, hr) = if z = 0 then none else some (L, .int (x - x / z * z) :: st, (S, hi, hl, hr)) := rfl
  by_cases h : z = 0
  · rw [zq_P_no hc (ho.trans (if_pos h)) rfl rfl rfl]
    exact propext ⟨False.elim, fun q => q.1 h⟩
  · rw [zq_P_op hc (ho.trans (if_neg h))]
    exact propext ⟨fun q => ⟨h, q⟩, fun q => q.2⟩
theorem zr_ldiv {x z : Int64} (hc : zq_cd y pc = some (.ldiv, 1)) : zq_P d y pc L (.long z :: .long x :: st) (S, hi, hl, hr) Q = (¬ z = 0 ∧ zq_P d y (pc + 1) L (.long (x / z) :: st) (S, hi, hl, hr) Q) := by
  have ho : zq_op y .ldiv L (.long z :: .long x :: st) (S, hi, hl, hr) = if z = 0 then none else some (L, .long (x / z) :: st, (S, hi, hl, hr)) := rfl
  by_cases h : z = 0
  · rw [zq_P_no hc (ho.trans (if_pos h)) rfl rfl rfl]
    exact propext ⟨False.elim, fun q => q.1 h⟩
  · rw [zq_P_op hc (ho.trans (if_neg h))]
    exact propext ⟨fun q => ⟨h, q⟩, fun q => q.2⟩
theorem zr_lrem {x z : Int64} (hc : zq_cd y pc = some (.lrem, 1)) : zq_P d y pc L (.long z :: .long x :: st) (S, hi, hl, hr) Q = (¬ z = 0 ∧ zq_P d y (pc + 1) L (.long (x - x / z * z) :: st) (S, hi, hl, hr) Q) := by
  have ho : zq_op y .lrem L (.long z :: .long x :: st) (S, hi, hl, hr) = if z = 0 then none else some (L, .long (x - x / z * z) :: st, (S, hi, hl, hr)) := rfl
  by_cases h : z = 0
  · rw [zq_P_no hc (ho.trans (if_pos h)) rfl rfl rfl]
    exact propext ⟨False.elim, fun q => q.1 h⟩
  · rw [zq_P_op hc (ho.trans (if_neg h))]
    exact propext ⟨fun q => ⟨h, q⟩, fun q => q.2⟩
theorem zr_goto {o : Int} {t : Nat} (hc : zq_cd y pc = some (.goto o, 3)) (h0 : 0 ≤ (pc : Int) + o) (ht : zq_tg pc o = t) : zq_P d y pc L st (S, hi, hl, hr) Q = zq_P d y t L st (S, hi, hl, hr) Q :=
  zq_P_jmp hc rfl (by rw [← ht]; exact if_pos h0)
theorem zr_br {c : ClassFile.Cond} {o : Int} {x z : Int32} (hc : zq_cd y pc = some (.if_icmp c o, 3)) (h0 : 0 ≤ (pc : Int) + o) : zq_P d y pc L (.int z :: .int x :: st) (S, hi, hl, hr) Q = ((zq_test c x z = true → zq_P d y (zq_tg pc o) L st (S, hi, hl, hr) Q) ∧ (¬ zq_test c x z = true → zq_P d y (pc + 3) L st (S, hi, hl, hr) Q)) := by
  rw [zq_P_jmp hc rfl (show zq_jmp pc (.if_icmp c o) (.int z :: .int x :: st) = _ from if_pos h0)]
  by_cases h : zq_test c x z = true <;> simp [h]
theorem zr_bz {c : ClassFile.Cond} {o : Int} {x : Int32} (hc : zq_cd y pc = some (.ifCond c o, 3)) (h0 : 0 ≤ (pc : Int) + o) : zq_P d y pc L (.int x :: st) (S, hi, hl, hr) Q = ((zq_test c x 0 = true → zq_P d y (zq_tg pc o) L st (S, hi, hl, hr) Q) ∧ (¬ zq_test c x 0 = true → zq_P d y (pc + 3) L st (S, hi, hl, hr) Q)) := by
  rw [zq_P_jmp hc rfl (show zq_jmp pc (.ifCond c o) (.int x :: st) = _ from if_pos h0)]
  by_cases h : zq_test c x 0 = true <;> simp [h]
theorem zr_and {A B A' B' : Prop} {T N : Prop} (h1 : A = A') (h2 : B = B') : ((A → T) ∧ (B → N)) = ((A' → T) ∧ (B' → N)) := by rw [h1, h2]
theorem zr_swap {A T N : Prop} : ((A → T) ∧ (¬ A → N)) = ((¬ A → N) ∧ (A → T)) := propext and_comm
theorem zr_teq (x z : Int32) : (zq_test .eq x z = true) = (x = z) := by simp [zq_test]
theorem zr_tne (x z : Int32) : (zq_test .ne x z = true) = (¬ x = z) := by simp [zq_test]
theorem zr_tlt (x z : Int32) : (zq_test .lt x z = true) = (x < z) := by simp [zq_test]
theorem zr_tge (x z : Int32) : (zq_test .ge x z = true) = (¬ x < z) := by simp [zq_test]
theorem zr_tgt (x z : Int32) : (zq_test .gt x z = true) = (z < x) := by simp [zq_test]
theorem zr_tle (x z : Int32) : (zq_test .le x z = true) = (¬ z < x) := by simp [zq_test]
theorem zr_ceq {o : Int} {t : Nat} {x z : Int32} (hc : zq_cd y pc = some (.if_icmp .eq o, 3)) (h0 : 0 ≤ (pc : Int) + o) (ht : zq_tg pc o = t) : zq_P d y pc L (.int z :: .int x :: st) (S, hi, hl, hr) Q = ((x = z → zq_P d y t L st (S, hi, hl, hr) Q) ∧ (¬ x = z → zq_P d y (pc + 3) L st (S, hi, hl, hr) Q)) := by rw [zr_br hc h0, zr_teq, ht]
theorem zr_cne {o : Int} {t : Nat} {x z : Int32} (hc : zq_cd y pc = some (.if_icmp .ne o, 3)) (h0 : 0 ≤ (pc : Int) + o) (ht : zq_tg pc o = t) : zq_P d y pc L (.int z :: .int x :: st) (S, hi, hl, hr) Q = ((x = z → zq_P d y (pc + 3) L st (S, hi, hl, hr) Q) ∧ (¬ x = z → zq_P d y t L st (S, hi, hl, hr) Q)) := by rw [zr_br hc h0, zr_tne, ht, zr_swap, Classical.not_not]
theorem zr_clt {o : Int} {t : Nat} {x z : Int32} (hc : zq_cd y pc = some (.if_icmp .lt o, 3)) (h0 : 0 ≤ (pc : Int) + o) (ht : zq_tg pc o = t) : zq_P d y pc L (.int z :: .int x :: st) (S, hi, hl, hr) Q = ((x < z → zq_P d y t L st (S, hi, hl, hr) Q) ∧ (¬ x < z → zq_P d y (pc + 3) L st (S, hi, hl, hr) Q)) := by rw [zr_br hc h0, zr_tlt, ht]
theorem zr_cge {o : Int} {t : Nat} {x z : Int32} (hc : zq_cd y pc = some (.if_icmp .ge o, 3)) (h0 : 0 ≤ (pc : Int) + o) (ht : zq_tg pc o = t) : zq_P d y pc L (.int z :: .int x :: st) (S, hi, hl, hr) Q = ((x < z → zq_P d y (pc + 3) L st (S, hi, hl, hr) Q) ∧ (¬ x < z → zq_P d y t L st (S, hi, hl, hr) Q)) := by rw [zr_br hc h0, zr_tge, ht, zr_swap, Classical.not_not]
theorem zr_cgt {o : Int} {t : Nat} {x z : Int32} (hc : zq_cd y pc = some (.if_icmp .gt o, 3)) (h0 : 0 ≤ (pc : Int) + o) (ht : zq_tg pc o = t) : zq_P d y pc L (.int z :: .int x :: st) (S, hi, hl, hr) Q = ((z < x → zq_P d y t L st (S, hi, hl, hr) Q) ∧ (¬ z < x → zq_P d y (pc + 3) L st (S, hi, hl, hr) Q)) := by rw [zr_br hc h0, zr_tgt, ht]
theorem zr_cle {o : Int} {t : Nat} {x z : Int32} (hc : zq_cd y pc = some (.if_icmp .le o, 3)) (h0 : 0 ≤ (pc : Int) + o) (ht : zq_tg pc o = t) : zq_P d y pc L (.int z :: .int x :: st) (S, hi, hl, hr) Q = ((z < x → zq_P d y (pc + 3) L st (S, hi, hl, hr) Q) ∧ (¬ z < x → zq_P d y t L st (S, hi, hl, hr) Q)) := by rw [zr_br hc h0, zr_tle, ht, zr_swap, Classical.not_not]
theorem zr_zeq {o : Int} {t : Nat} {x : Int32} (hc : zq_cd y pc = some (.ifCond .eq o, 3)) (h0 : 0 ≤ (pc : Int) + o) (ht : zq_tg pc o = t) : zq_P d y pc L (.int x :: st) (S, hi, hl, hr) Q = ((x = 0 → zq_P d y t L st (S, hi, hl, hr) Q) ∧ (¬ x = 0 → zq_P d y (pc + 3) L st (S, hi, hl, hr) Q)) := by rw [zr_bz hc h0, zr_teq, ht]
theorem zr_zne {o : Int} {t : Nat} {x : Int32} (hc : zq_cd y pc = some (.ifCond .ne o, 3)) (h0 : 0 ≤ (pc : Int) + o) (ht : zq_tg pc o = t) : zq_P d y pc L (.int x :: st) (S, hi, hl, hr) Q = ((x = 0 → zq_P d y (pc + 3) L st (S, hi, hl, hr) Q) ∧ (¬ x = 0 → zq_P d y t L st (S, hi, hl, hr) Q)) := by rw [zr_bz hc h0, zr_tne, ht, zr_swap, Classical.not_not]
theorem zr_zlt {o : Int} {t : Nat} {x : Int32} (hc : zq_cd y pc = some (.ifCond .lt o, 3)) (h0 : 0 ≤ (pc : Int) + o) (ht : zq_tg pc o = t) : zq_P d y pc L (.int x :: st) (S, hi, hl, hr) Q = ((x < 0 → zq_P d y t L st (S, hi, hl, hr) Q) ∧ (¬ x < 0 → zq_P d y (pc + 3) L st (S, hi, hl, hr) Q)) := by rw [zr_bz hc h0, zr_tlt, ht]
theorem zr_zge {o : Int} {t : Nat} {x : Int32} (hc : zq_cd y pc = some (.ifCond .ge o, 3)) (h0 : 0 ≤ (pc : Int) + o) (ht : zq_tg pc o = t) : zq_P d y pc L (.int x :: st) (S, hi, hl, hr) Q = ((x < 0 → zq_P d y (pc + 3) L st (S, hi, hl, hr) Q) ∧ (¬ x < 0 → zq_P d y t L st (S, hi, hl, hr) Q)) := by rw [zr_bz hc h0, zr_tge, ht, zr_swap, Classical.not_not]
theorem zr_zgt {o : Int} {t : Nat} {x : Int32} (hc : zq_cd y pc = some (.ifCond .gt o, 3)) (h0 : 0 ≤ (pc : Int) + o) (ht : zq_tg pc o = t) : zq_P d y pc L (.int x :: st) (S, hi, hl, hr) Q = ((0 < x → zq_P d y t L st (S, hi, hl, hr) Q) ∧ (¬ 0 < x → zq_P d y (pc + 3) L st (S, hi, hl, hr) Q)) := by rw [zr_bz hc h0, zr_tgt, ht]
theorem zr_zle {o : Int} {t : Nat} {x : Int32} (hc : zq_cd y pc = some (.ifCond .le o, 3)) (h0 : 0 ≤ (pc : Int) + o) (ht : zq_tg pc o = t) : zq_P d y pc L (.int x :: st) (S, hi, hl, hr) Q = ((0 < x → zq_P d y (pc + 3) L st (S, hi, hl, hr) Q) ∧ (¬ 0 < x → zq_P d y t L st (S, hi, hl, hr) Q)) := by rw [zr_bz hc h0, zr_tle, ht, zr_swap, Classical.not_not]
theorem zr_iret {v : Int32} (hc : zq_cd y pc = some (.ireturn, 1)) (ht : zq_rt y = some .int) : zq_P d y pc L [.int v] (S, hi, hl, hr) Q = Q (some (.int v)) (S, hi, hl, hr) :=
  zq_P_ret hc rfl rfl (by unfold zq_ret; simp only [ht])
theorem zr_zret {v : Int32} (hc : zq_cd y pc = some (.ireturn, 1)) (ht : zq_rt y = some .boolean) : zq_P d y pc L [.int v] (S, hi, hl, hr) Q = ((v = 0 ∨ v = 1) ∧ Q (some (.int v)) (S, hi, hl, hr)) := by
  by_cases h : v = 0 ∨ v = 1
  · rw [zq_P_ret hc rfl rfl (v := some (.int v)) (by unfold zq_ret; simp only [ht]; exact if_pos h)]
    simp [h]
  · rw [zq_P_no hc rfl rfl (by unfold zq_ret; simp only [ht]; exact if_neg h) rfl]
    simp [h]
theorem zr_lret {v : Int64} (hc : zq_cd y pc = some (.lreturn, 1)) (ht : zq_rt y = some .long) : zq_P d y pc L [.long v] (S, hi, hl, hr) Q = Q (some (.long v)) (S, hi, hl, hr) :=
  zq_P_ret hc rfl rfl (by unfold zq_ret; simp only [ht])
theorem zr_aret {t : FieldType} (hc : zq_cd y pc = some (.areturn, 1)) (ht : zq_rt y = some t) (hk : refKind t = true) : zq_P d y pc L [.ref a] (S, hi, hl, hr) Q = Q (some (.ref a)) (S, hi, hl, hr) :=
  zq_P_ret hc rfl rfl (by unfold zq_ret; simp only [ht]; rw [if_pos hk])
theorem zr_aretN {t : FieldType} (hc : zq_cd y pc = some (.areturn, 1)) (ht : zq_rt y = some t) (hk : refKind t = true) : zq_P d y pc L [.null] (S, hi, hl, hr) Q = Q (some .null) (S, hi, hl, hr) :=
  zq_P_ret hc rfl rfl (by unfold zq_ret; simp only [ht]; rw [if_pos hk])
theorem zr_vret (hc : zq_cd y pc = some (.return_, 1)) (ht : zq_rt y = none) : zq_P d y pc L [] (S, hi, hl, hr) Q = Q none (S, hi, hl, hr) :=
  zq_P_ret hc rfl rfl (by unfold zq_ret; simp only [ht])
theorem zr_virt {q : Nat × Nat × Nat × Nat × Nat × Nat} {as r : List Value} {n : Nat} (hc : zq_cd y pc = some (.invokevirtual k, 3)) (hq : zq_mq (zq_own y) k = some q) (h0 : q.2.2.1 = 0) (hz : (zq_i q.2.2.2.1).2.2.1 = 0) (hn : (zq_i q.2.2.2.1).2.1 = n) (hs : st.take n = as) (hd : st.drop n = .ref a :: r) (hw : (r.map fun v => v.category).sum ≤ 8) (hl2 : (zq_fl2 (.ref a :: as.reverse)).length ≤ zq_ml q.2.2.2.1) :
    zq_P (d + 1) y pc L st (S, hi, hl, hr) Q = (zq_vS S a (zq_i q.2.2.2.1).1 ∧ zq_P d q.2.2.2.1 0 (zq_ent q.2.2.2.1 (.ref a :: as.reverse)) [] (S, hi, hl, hr) (fun v g2 => zq_P (d + 1) y (pc + 3) L (v.toList ++ r) g2 Q)) := by
  have key : zq_inv y (.invokevirtual k) st (S, hi, hl, hr) = if a ≠ 1000 ∧ zq_is S a (zq_i q.2.2.2.1).1 ∧ (r.map fun v => v.category).sum ≤ 8 then some (q.2.2.2.1, .ref a :: as.reverse, r) else none := by
    unfold zq_inv
    simp only [hq]
    rw [if_pos ⟨h0, hz⟩, hn, hd, hs]
  by_cases h : a ≠ 1000 ∧ zq_is S a (zq_i q.2.2.2.1).1
  · rw [zq_P_inv hc rfl rfl rfl (key.trans (if_pos ⟨h.1, h.2, hw⟩)) hl2]
    exact (propext ⟨fun z => ⟨h, z⟩, fun z => z.2⟩)
  · rw [zq_P_no hc rfl rfl rfl (key.trans (if_neg (fun z => h ⟨z.1, z.2.1⟩)))]
    exact (propext ⟨False.elim, fun z => h z.1⟩)
theorem zr_stat {q : Nat × Nat × Nat × Nat × Nat × Nat} {as r : List Value} {n : Nat} (hc : zq_cd y pc = some (.invokestatic k, 3)) (hq : zq_mq (zq_own y) k = some q) (h0 : q.2.2.1 = 0) (hz : (zq_i q.2.2.2.1).2.2.1 = 1) (hn : (zq_i q.2.2.2.1).2.1 = n) (hm : n ≤ st.length) (hs : st.take n = as) (hd : st.drop n = r) (hw : (r.map fun v => v.category).sum ≤ 8) (hl2 : (zq_fl2 as.reverse).length ≤ zq_ml q.2.2.2.1) :
    zq_P (d + 1) y pc L st (S, hi, hl, hr) Q = zq_P d q.2.2.2.1 0 (zq_ent q.2.2.2.1 as.reverse) [] (S, hi, hl, hr) (fun v g2 => zq_P (d + 1) y (pc + 3) L (v.toList ++ r) g2 Q) := by
  have ho : zq_op y (.invokestatic k) L st (S, hi, hl, hr) = none := by
    show zq_sta y k L st (S, hi, hl, hr) = none
    unfold zq_sta
    simp only [hq, h0]
  have key : zq_inv y (.invokestatic k) st (S, hi, hl, hr) = some (q.2.2.2.1, as.reverse, r) := by
    unfold zq_inv
    simp only [hq]
    rw [if_pos ⟨h0, hz, by rw [hn]; exact hm, by rw [hn, hd]; exact hw⟩, hn, hd, hs]
  rw [zq_P_inv hc ho rfl rfl key hl2]
theorem zr_virt2 {q0 q1 q4 q5 z c n m : Nat} {as r E : List Value} (hc : zq_cd y pc = some (.invokevirtual k, 3)) (hq : zq_mq (zq_own y) k = some (q0, q1, 0, z, q4, q5)) (hi2 : (zq_i z).1 = c ∧ (zq_i z).2.1 = n ∧ (zq_i z).2.2.1 = 0) (hm : zq_ml z = m) (hs : st.take n = as) (hd : st.drop n = .ref a :: r) (hw : (r.map fun v => v.category).sum ≤ 8) (hl2 : (zq_fl2 (.ref a :: as.reverse)).length ≤ m) (he : zq_fl2 (.ref a :: as.reverse) ++ List.replicate (m - (zq_fl2 (.ref a :: as.reverse)).length) (.retAddr 0) = E) :
    zq_P (d + 1) y pc L st (S, hi, hl, hr) Q = (zq_vS S a c ∧ zq_P d z 0 E [] (S, hi, hl, hr) (fun v g2 => zq_P (d + 1) y (pc + 3) L (v.toList ++ r) g2 Q)) := by
  have h := zr_virt (d := d) (L := L) (S := S) (hi := hi) (hl := hl) (hr := hr) (Q := Q) hc hq rfl hi2.2.2 hi2.2.1 hs hd hw (by rw [show (q0, q1, 0, z, q4, q5).2.2.2.1 = z from rfl, hm]; exact hl2)
  rw [show (q0, q1, 0, z, q4, q5).2.2.2.1 = z from rfl, zq_ent, hm, he, hi2.1] at h
  exact h
theorem zr_stat2 {q0 q1 q4 q5 z c n m : Nat} {as r E : List Value} (hc : zq_cd y pc = some (.invokestatic k, 3)) (hq : zq_mq (zq_own y) k = some (q0, q1, 0, z, q4, q5)) (hi2 : (zq_i z).1 = c ∧ (zq_i z).2.1 = n ∧ (zq_i z).2.2.1 = 1) (hm : zq_ml z = m) (hn : n ≤ st.length) (hs : st.take n = as) (hd : st.drop n = r) (hw : (r.map fun v => v.category).sum ≤ 8) (hl2 : (zq_fl2 as.reverse).length ≤ m) (he : zq_fl2 as.reverse ++ List.replicate (m - (zq_fl2 as.reverse).length) (.retAddr 0) = E) :
    zq_P (d + 1) y pc L st (S, hi, hl, hr) Q = zq_P d z 0 E [] (S, hi, hl, hr) (fun v g2 => zq_P (d + 1) y (pc + 3) L (v.toList ++ r) g2 Q) := by
  have h := zr_stat (d := d) (L := L) (S := S) (hi := hi) (hl := hl) (hr := hr) (Q := Q) hc hq rfl hi2.2.2 hi2.2.1 hn hs hd hw (by rw [show (q0, q1, 0, z, q4, q5).2.2.2.1 = z from rfl, hm]; exact hl2)
  rw [show (q0, q1, 0, z, q4, q5).2.2.2.1 = z from rfl, zq_ent, hm, he] at h
  exact h
theorem zr_copy {q : Nat × Nat × Nat × Nat × Nat × Nat} {n dp sp : Int32} {a0 : Nat} (hc : zq_cd y pc = some (.invokestatic k, 3)) (hq : zq_mq (zq_own y) k = some q) (h0 : q.2.2.1 = 2) (hw : (st.map fun v => v.category).sum ≤ 8) :
    zq_P d y pc L (.int n :: .int dp :: .ref a :: .int sp :: .ref a0 :: st) (S, hi, hl, hr) Q = (zq_aW S a ∧ zq_aW S a0 ∧ (¬ sp < 0 ∧ ¬ dp < 0 ∧ ¬ n < 0 ∧ sp.toNatClampNeg + n.toNatClampNeg ≤ zq_ln S a0 ∧ dp.toNatClampNeg + n.toNatClampNeg ≤ zq_ln S a) ∧ zq_P d y (pc + 3) L st (S, zq_w hi a (va_cpy (hi a0) (hi a) sp.toNatClampNeg dp.toNatClampNeg n.toNatClampNeg), hl, hr) Q) := by
  have ho : zq_op y (.invokestatic k) L (.int n :: .int dp :: .ref a :: .int sp :: .ref a0 :: st) (S, hi, hl, hr) = zq_copy L (.int n :: .int dp :: .ref a :: .int sp :: .ref a0 :: st) (S, hi, hl, hr) := by
    show zq_sta y k L _ (S, hi, hl, hr) = _
    unfold zq_sta
    simp only [hq, h0]
  have hv : zq_inv y (.invokestatic k) (.int n :: .int dp :: .ref a :: .int sp :: .ref a0 :: st) (S, hi, hl, hr) = none := by
    unfold zq_inv
    simp only [hq]
    rw [if_neg (fun z => by have := z.1; omega)]
  by_cases h : (a < S.1 ∧ a ≠ 1000 ∧ (S.2.2 a).1 = 0) ∧ (a0 < S.1 ∧ a0 ≠ 1000 ∧ (S.2.2 a0).1 = 0) ∧ ¬ sp < 0 ∧ ¬ dp < 0 ∧ ¬ n < 0 ∧ sp.toNatClampNeg + n.toNatClampNeg ≤ (S.2.2 a0).2 ∧ dp.toNatClampNeg + n.toNatClampNeg ≤ (S.2.2 a).2 ∧ (st.map fun v => v.category).sum ≤ 8
  · rw [zq_P_op hc (ho.trans (show zq_copy L _ (S, hi, hl, hr) = _ from if_pos h))]
    exact (propext ⟨fun z => ⟨h.1, h.2.1, ⟨h.2.2.1, h.2.2.2.1, h.2.2.2.2.1, h.2.2.2.2.2.1, h.2.2.2.2.2.2.1⟩, z⟩, fun z => z.2.2.2⟩)
  · rw [zq_P_no hc (ho.trans (show zq_copy L _ (S, hi, hl, hr) = _ from if_neg h)) rfl rfl hv]
    exact (propext ⟨False.elim, fun z => h ⟨z.1, z.2.1, z.2.2.1.1, z.2.2.1.2.1, z.2.2.1.2.2.1, z.2.2.1.2.2.2.1, z.2.2.1.2.2.2.2, hw⟩⟩)
theorem zr_max {q : Nat × Nat × Nat × Nat × Nat × Nat} {x z : Int32} (hc : zq_cd y pc = some (.invokestatic k, 3)) (hq : zq_mq (zq_own y) k = some q) (h0 : q.2.2.1 = 3) (hw : (st.map fun v => v.category).sum ≤ 8) : zq_P d y pc L (.int z :: .int x :: st) (S, hi, hl, hr) Q = zq_P d y (pc + 3) L (.int (if x < z then z else x) :: st) (S, hi, hl, hr) Q := by
  refine zq_P_op hc ?_
  show zq_sta y k L _ (S, hi, hl, hr) = _
  unfold zq_sta
  simp only [hq, h0]
  exact if_pos hw
theorem zr_min {q : Nat × Nat × Nat × Nat × Nat × Nat} {x z : Int32} (hc : zq_cd y pc = some (.invokestatic k, 3)) (hq : zq_mq (zq_own y) k = some q) (h0 : q.2.2.1 = 4) (hw : (st.map fun v => v.category).sum ≤ 8) : zq_P d y pc L (.int z :: .int x :: st) (S, hi, hl, hr) Q = zq_P d y (pc + 3) L (.int (if z < x then z else x) :: st) (S, hi, hl, hr) Q := by
  refine zq_P_op hc ?_
  show zq_sta y k L _ (S, hi, hl, hr) = _
  unfold zq_sta
  simp only [hq, h0]
  exact if_pos hw
theorem zr_nn {o : Int} {t : Nat} (hc : zq_cd y pc = some (.ifnonnull o, 3)) (h0 : 0 ≤ (pc : Int) + o) (ht : zq_tg pc o = t) : zq_P d y pc L (.ref a :: st) (S, hi, hl, hr) Q = zq_P d y t L st (S, hi, hl, hr) Q :=
  zq_P_jmp hc rfl (by rw [← ht]; exact if_pos h0)
theorem zr_nnN {o : Int} (hc : zq_cd y pc = some (.ifnonnull o, 3)) : zq_P d y pc L (.null :: st) (S, hi, hl, hr) Q = zq_P d y (pc + 3) L st (S, hi, hl, hr) Q :=
  zq_P_jmp hc rfl rfl
theorem zr_nu {o : Int} (hc : zq_cd y pc = some (.ifnull o, 3)) : zq_P d y pc L (.ref a :: st) (S, hi, hl, hr) Q = zq_P d y (pc + 3) L st (S, hi, hl, hr) Q :=
  zq_P_jmp hc rfl rfl
theorem zr_nuN {o : Int} {t : Nat} (hc : zq_cd y pc = some (.ifnull o, 3)) (h0 : 0 ≤ (pc : Int) + o) (ht : zq_tg pc o = t) : zq_P d y pc L (.null :: st) (S, hi, hl, hr) Q = zq_P d y t L st (S, hi, hl, hr) Q :=
  zq_P_jmp hc rfl (by rw [← ht]; exact if_pos h0)
end ZL
