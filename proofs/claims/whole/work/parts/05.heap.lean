/-! The heap of the small machine in the real one; what the tables say; what a frame is -/
def zq_E (cI cR : ClassId) (B b : Nat) (g : zq_G) (a : Nat) : va_E := match (g.1.2.2 a).1 with
  | 0 => .inl (cI, (g.1.2.2 a).2, .inl (g.2.1 a))
  | 1 => .inl (cR, (g.1.2.2 a).2, .inr (.inr (.inr (.inr (fun k => (g.2.2.2 a k).map (zq_a B b))))))
  | c + 2 => .inr (c, (List.range (zq_N c)).map (fun k => zq_v B b (zq_gv c k a g)))
def zq_ws (cI cR : ClassId) (B b : Nat) (g : zq_G) : va_W := (List.range g.1.1).map (fun a => (B + a, zq_E cI cR B b g a))
theorem zq_E_0 {cI cR : ClassId} {B b : Nat} {g : zq_G} {a : Nat} (h : (g.1.2.2 a).1 = 0) : zq_E cI cR B b g a = .inl (cI, (g.1.2.2 a).2, .inl (g.2.1 a)) := by unfold zq_E; rw [h]
theorem zq_E_1 {cI cR : ClassId} {B b : Nat} {g : zq_G} {a : Nat} (h : (g.1.2.2 a).1 = 1) : zq_E cI cR B b g a = .inl (cR, (g.1.2.2 a).2, .inr (.inr (.inr (.inr (fun k => (g.2.2.2 a k).map (zq_a B b)))))) := by unfold zq_E; rw [h]
theorem zq_E_2 {cI cR : ClassId} {B b : Nat} {g : zq_G} {a c : Nat} (h : (g.1.2.2 a).1 = c + 2) : zq_E cI cR B b g a = .inr (c, (List.range (zq_N c)).map (fun k => zq_v B b (zq_gv c k a g))) := by unfold zq_E; rw [h]
theorem zq_ws_get {cI cR : ClassId} {B b : Nat} {g : zq_G} {a : Nat} (h : a < g.1.1) : (zq_ws cI cR B b g)[a]? = some (B + a, zq_E cI cR B b g a) := by
  unfold zq_ws
  rw [List.getElem?_map, List.getElem?_range h]
  rfl
theorem zq_ws_len {cI cR : ClassId} {B b : Nat} {g : zq_G} : (zq_ws cI cR B b g).length = g.1.1 := by unfold zq_ws; simp
theorem zq_ws_inv {cI cR : ClassId} {B b : Nat} {g : zq_G} {k : Nat} {q : Nat × va_E} (h : (zq_ws cI cR B b g)[k]? = some q) : k < g.1.1 ∧ q = (B + k, zq_E cI cR B b g k) := by
  have hl : k < g.1.1 := by
    have := (List.getElem?_eq_some_iff.mp h).1
    rwa [zq_ws_len] at this
  refine ⟨hl, ?_⟩
  rw [zq_ws_get hl] at h
  exact (Option.some.inj h).symm
theorem zq_ws_set {cI cR : ClassId} {B b : Nat} {g g2 : zq_G} {a : Nat} {e : va_E} (hn : g2.1.1 = g.1.1) (ha : a < g.1.1) (ho : ∀ x, x ≠ a → zq_E cI cR B b g2 x = zq_E cI cR B b g x) (he : zq_E cI cR B b g2 a = e) : (zq_ws cI cR B b g).set a (B + a, e) = zq_ws cI cR B b g2 := by
  apply List.ext_getElem?
  intro k
  by_cases hk : k < g.1.1
  · rw [zq_ws_get (g := g2) (by rw [hn]; exact hk)]
    by_cases hka : k = a
    · subst hka
      rw [List.getElem?_set_self (by rw [zq_ws_len]; exact hk), he]
    · rw [List.getElem?_set_ne (Ne.symm hka), zq_ws_get hk, ho k hka]
  · rw [List.getElem?_eq_none (by rw [List.length_set, zq_ws_len]; omega), List.getElem?_eq_none (by rw [zq_ws_len, hn]; omega)]
theorem zq_ws_push {cI cR : ClassId} {B b : Nat} {g g2 : zq_G} {e : va_E} (hn : g2.1.1 = g.1.1 + 1) (ho : ∀ x, x < g.1.1 → zq_E cI cR B b g2 x = zq_E cI cR B b g x) (he : zq_E cI cR B b g2 g.1.1 = e) : zq_ws cI cR B b g ++ [(B + g.1.1, e)] = zq_ws cI cR B b g2 := by
  unfold zq_ws
  rw [hn, List.range_succ, List.map_append, List.map_cons, List.map_nil, he]
  congr 1
  exact List.map_congr_left (fun x hx => by rw [ho x (List.mem_range.mp hx)])
theorem zq_ws_D (cI cR : ClassId) (B b : Nat) (g : zq_G) : va_D (fun q => B ≤ q) (zq_ws cI cR B b g) := by
  refine ⟨fun i j p q hi hj h => ?_, fun k q hk => ?_⟩
  · obtain ⟨-, h1⟩ := zq_ws_inv hi
    obtain ⟨-, h2⟩ := zq_ws_inv hj
    subst h1; subst h2
    have h3 : B + i = B + j := h
    omega
  · obtain ⟨-, h1⟩ := zq_ws_inv hk
    subst h1
    exact Nat.le_add_right B k
abbrev zq_strip : FieldType := .object "EveningFalls$Strip"
abbrev zq_tys (cI cR : ClassId) : List (ClassId × FieldType) := [(cI, .int), (cR, zq_strip)]
def zq_tb : List Cond := lw_tbl.filter zq_gw
theorem zq_tb_at {i : Nat} {w : Cond} (h : lw_tbl[i]? = some w) (hw : zq_gw w = true) : w ∈ zq_tb := List.mem_filter.mpr ⟨List.mem_of_getElem? h, hw⟩
theorem zq_tb_in (c : Nat) (hc : c < 6) : ∀ w ∈ u_ws (zq_cn c) (zq_T c) (zq_N c), w ∈ zq_tb := by
  intro w hw
  refine List.mem_filter.mpr ⟨zq_in c hc w hw, ?_⟩
  obtain ⟨k, -, rfl⟩ := List.mem_map.mp hw
  unfold u_lay
  split <;> rfl
/-- the claim's surroundings: class numbers and slots, array classes, the heap at the law's entry, the script -/
abbrev zq_X : Type := va_G × (ClassId × ClassId) × Heap × Nat × Nat × (Nat → Int32)
abbrev zq_D (X : zq_X) : va_G := X.1
abbrev zq_cI (X : zq_X) : ClassId := X.2.1.1
abbrev zq_cR (X : zq_X) : ClassId := X.2.1.2
abbrev zq_B (X : zq_X) : Nat := X.2.2.1.size
abbrev zq_b (X : zq_X) : Nat := X.2.2.2.1
abbrev zq_W0 (X : zq_X) (g : zq_G) : va_W := zq_ws (zq_cI X) (zq_cR X) (zq_B X) (zq_b X) g
abbrev zq_av (X : zq_X) (v : Value) : Value := zq_v (zq_B X) (zq_b X) v
abbrev zq_Ad (X : zq_X) : Nat → Prop := fun q => zq_B X ≤ q
/-- the small heap lies in the real one -/
def zq_H (X : zq_X) (g : zq_G) (H : Heap) : Prop := g.1.1 ≤ 1000 ∧ g.1.2.2 1000 = (0, X.2.2.2.2.1) ∧ (∀ j, j < X.2.2.2.2.1 → g.2.1 1000 j = X.2.2.2.2.2 j) ∧ H.size = zq_B X + g.1.1 ∧ va_P (zq_D X) zq_cl (zq_W0 X g) H ∧ ∀ q, q < zq_B X → H[q]? = X.2.2.1[q]?
/-- what the tables say -/
def zq_K (X : zq_X) (U : State) : Prop := (∀ w ∈ zq_tb, w.before #[] U = true) ∧ va_K (zq_D X) zq_cl (zq_tys (zq_cI X) (zq_cR X)) U ∧ va_X (zq_b X) X.2.2.2.2.1 X.2.2.2.2.2 U X.2.2.1 ∧ zq_b X < zq_B X
theorem zq_word_moved {w : Cond} (hw : zq_gw w = true) {a a' : Array Value} {s U : State} (hW : s.WarmedH U.vm) (h : w.before a s = true) : w.before a' U = true := by
  by_cases hg : goodWord w = true
  · exact word_at hW (good_of_word hg) h
  · cases w with
    | fieldLinkNest x i y n d z => exact va_Nw.use rfl (va_Nw.warmF hW (va_Nw.of rfl h))
    | methodLinkNest x i y z => exact va_Nw.use rfl (va_Nw.warmM hW (va_Nw.of rfl h))
    | arrayOver t =>
      cases t with
      | object C => exact va_AO.use (va_AO.moved hW.alike (va_AO.of h))
      | _ => cases hw
    | _ => exact absurd hw hg
theorem zq_K.moved {X : zq_X} {s U : State} (hW : s.WarmedH U.vm) (h : zq_K X s) : zq_K X U :=
  ⟨fun w hw => zq_word_moved (List.mem_filter.mp hw).2 hW (h.1 w hw), va_K.moved hW.alike h.2.1, va_X.moved hW.alike h.2.2.1, h.2.2.2⟩
/-- what is known in a frame of method y -/
def zq_Fr (X : zq_X) (p : Program) (s : State) (m : MethodId) (args : Array Value) (meth : Method) (c : Code) (y : Nat) : Prop :=
  p.tables.exec = Jvm.exec ∧ c.code = zq_by y ∧ c.maxLocals = zq_ml y ∧ s.vm.findClass (zq_cn (zq_own y)) = some m.cls ∧ ((zq_i y).2.2.1 = 2 → meth.name = "<init>") ∧ (∀ w ∈ zq_tb, w.before args s = true) ∧ zq_K X s ∧ meth.locks = false ∧ meth.sig.returnType = zq_rt y
section ZH
variable {p : Program} {l : Launch} {e : Env} {R : Room} {s : State} {m : MethodId} {args : Array Value} {below : List Frame} {meth : Method} {c : Code} {H : Heap} {locs : List Loc} {cells slots : Nat} {Q : State → Prop}
theorem zq_size {g : JFrame} (k : H.size ≤ s.heap.size + cells → W p l e R s m args below meth c H locs cells slots Q g) : W p l e R s m args below meth c H locs cells slots Q g := by
  intro T hT X
  refine k ?_ T hT X
  have h := X.same.2.2.1
  rw [← hT]
  exact h
/-- back to the small heap behind a row of the kit -/
theorem zq_back {X : zq_X} {g0 g g2 : zq_G} {H0 H1 : Heap} {locs1 : List Loc} (h0 : H0.size = zq_B X + g0.1.1) (hb0 : ∀ q, q < zq_B X → H0[q]? = X.2.2.1[q]?) (hH : zq_H X g H) (hS : g2.1 = g.1) (hx : g2.2.1 1000 = g.2.1 1000) (hP : va_P (zq_D X) zq_cl (zq_W0 X g2) H1) (hS1 : va_S (zq_Ad X) H0 H1 locs1) (hg0 : g0.1.1 ≤ g.1.1) (hz : H1.size ≤ H0.size + (g.1.1 - g0.1.1)) : zq_H X g2 H1 := by
  obtain ⟨a1, a2, a3, a4, a5, a6⟩ := hH
  refine ⟨by rw [hS]; exact a1, by rw [hS]; exact a2, fun j hj => by rw [hx]; exact a3 j hj, ?_, hP, fun q hq => ?_⟩
  · have h1 : zq_B X + g.1.1 ≤ H1.size := by
      by_cases hn : g.1.1 = 0
      · have := hS1.1
        omega
      · have h2 := (hP (g.1.1 - 1) _ (zq_ws_get (by rw [hS]; omega))).lt
        have h3 : zq_B X + (g.1.1 - 1) < H1.size := h2
        omega
    rw [hS]
    omega
  · rw [hS1.2.1 q (by omega) (by show ¬ zq_B X ≤ q; omega), hb0 q hq]
end ZH
