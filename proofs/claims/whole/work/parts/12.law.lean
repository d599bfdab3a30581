def R_law : String := "EveningFallsLaw"
def lw_P (b : Addr) (xs : List Int32) (args : Array Value) (s : State) : Prop := args = #[.ref b] ∧ s.IntsAt b xs ∧ xs.length ≤ 384 ∧ (Jvm.Cond.and given_1 narrow_1).before args s = true
def lw_Q (_ : Array Value) (s : State) (o : Outcome) (t : State) : Prop := o = .returned (some (.int 1)) ∧ Framed s o t [] 600000 7302250
def lw_Z (below : List Frame) (a : Array Value) (s : State) : State → Prop := fun t => ∃ o, t.status = .running ∧ Ended t below o ∧ lw_Q a s o t
/-- the law's own end, with 1 on the stack, nothing written that was there before, its room as the claim has it -/
theorem lw_ret {p : Program} {l : Launch} {e : Env} {s : State} {m : MethodId} {below : List Frame} {meth : Method} {c : Code} {b : Nat} (hx : p.tables.exec = Jvm.exec) (hb : c.code = code) (hr : meth.sig.returnType = ret) (hlocks : meth.locks = false) {pc : Nat} {H : Heap} {ls : Array Slot} (hdg : decode code pc = .ok (.ireturn, 1)) : W p l e room_1 s m #[Value.ref b] below meth c H [] 600000 7302250 (lw_Z below #[Value.ref b] s) (F0 m pc ls [.int 1]) := by
  intro T hT X
  obtain ⟨fs, hret, hrun, hended, hW, hframe⟩ := X.leave (v := some (.int 1)) (hlocks := hlocks) (fun h => by rw [hr] at h; cases h)
  have hmeth' : T.vm.method? m = some meth := X.method'
  refine ⟨T.setFrames fs, ?_, .returned (some (.int 1)), hrun, hended, rfl, ⟨_, rfl⟩, hW, hframe⟩
  jvm_step X.here [X.here.top, hx, hb, hdg, hmeth', hr, ret, narrow_b1]
  (try refine ⟨rfl, ?_⟩); (try refine ⟨rfl, ?_⟩)
  first | (intro acts; rw [hret _ acts rfl rfl rfl]) | rw [hret _ _ rfl rfl rfl]
  exact Steps.refl _
/-- what holds at the law's entry: the machine, the code, the tables' words (any of lw_tbl by 'hts w (by decide +kernel)'), the script of L ints xs at the cell b, what the Statement gives of the start (any of its parts by flat_of_before) -/
def lw_At (p : Program) (s : State) (m : MethodId) (meth : Method) (c : Code) (b L : Nat) (xs : Nat → Int32) : Prop :=
  p.tables.exec = Jvm.exec ∧ c.code = code ∧ meth.sig.returnType = ret ∧ c.maxLocals = 4 ∧ s.vm.findClass R_law = some m.cls ∧ (∀ w ∈ lw_tbl, w.before #[Value.ref b] s = true) ∧ va_X b L xs s s.heap ∧ b < s.heap.size ∧ meth.locks = false ∧ (Jvm.Cond.and given_1 narrow_1).before #[Value.ref b] s = true
/-! The claim out of a run of the small machine -/
theorem zq_ev_ok (l : Launch) (X : zq_X) : ∀ (d Fu z : Nat) (as : List Value) (g : zq_G) (v : Option Value) (g2 : zq_G), z ≠ 0 → z < 208 → zq_ev d Fu z as g = some (v, g2) → zq_Met l X d z as g v g2 := by
  intro d
  induction d with
  | zero => intro Fu z as g v g2 _ _ h; cases h
  | succ d ih =>
    intro Fu z as g v g2 h0 h1 h
    unfold zq_ev at h
    split at h
    · rename_i hlen
      obtain ⟨m1, m2, m3, m4, m5, m6, m7, m8, m9, m10, m11, m12⟩ := zq_mi_all h1 h0
      refine Met.ofW (cc := zq_by z) (maxL := zq_ml z) (ret := zq_rt z) m9 rfl ?_
      intro p e s m args below meth c s₁ B hml hv
      obtain ⟨rfl, hH, hK⟩ := hv
      have hown : s.vm.findClass (zq_cn (zq_own z)) = some m.cls := by
        have h2 := findClass_of_methodNamed B.named
        rw [m3] at h2
        exact h2
      have F : zq_Fr X p s m ((as.map (zq_av X)).toArray) meth c z := ⟨B.exec, B.bytes, hml, hown, fun h2 => (name_of_methodNamed B.named B.method).1.trans (m8.mp h2), fun w hw => zq_word_moved (List.mem_filter.mp hw).2 (State.WarmedH.refl s) (hK.1 w hw), hK, B.notSynchronized, B.returns⟩
      have hw := zq_run_ok (l := l) (e := e) (below := below) (R := zq_rm (d + 1) g g2) F hH (d := d) (Fu := Fu) ⟨Nat.le_refl _, Nat.le_refl _, Nat.le_refl _, Nat.le_refl _⟩ (fun z as g v g2 q0 q1 q2 => ih Fu z as g v g2 q0 q1 q2) Fu 0 (zq_ent z as) [] g h _ s.heap [] (zq_loc_entry _ _ z as hlen) hH va_S.rf (Nat.le_refl _) (Nat.le_refl _)
      rw [Nat.sub_self, Nat.sub_self] at hw
      rw [lg_entry_eq]
      exact hw
    · cases h
/-- the small heap at the law's entry: the script alone -/
def zq_g0 (L : Nat) (xs : Nat → Int32) : zq_G := ((0, 0, fun a => if a = 1000 then (0, L) else (9, 0)), (fun a k => if a = 1000 then xs k else 0), (fun _ _ => 0), fun _ _ => none)
theorem zq_arr_int {U : State} (h : (Cond.arrayClass .int).before #[] U = true) : ∃ cI : ClassId, ArrOfT U cI .int ∧ va_RA U cI .int := by
  obtain ⟨c, k, comp, h1, h2, h3⟩ := Cond.arrayClass_spec h
  exact ⟨c, fun n z => ⟨fun k h => (by cases h), k, h2, comp, h3⟩, h1⟩
theorem zq_arr_ref {U : State} (h : (Cond.arrayOver zq_strip).before #[] U = true) : ∃ cR : ClassId, ArrOfT U cR zq_strip ∧ va_RA U cR zq_strip := by
  obtain ⟨comp, c, k, h1, h2, h3, h4, h5⟩ := Cond.arrayOver_spec h
  exact ⟨c, fun n z => ⟨fun k h => (by cases h), k, h3, comp, h4⟩, k, comp, h3, h4, h1, h5⟩
theorem zq_W_mono {p : Program} {l : Launch} {e : Env} {R : Room} {s : State} {m : MethodId} {args : Array Value} {below : List Frame} {meth : Method} {c : Code} {H : Heap} {locs : List Loc} {cells slots : Nat} {Q Q2 : State → Prop} {f : JFrame} (h : ∀ t, Q t → Q2 t) (k : W p l e R s m args below meth c H locs cells slots Q f) : W p l e R s m args below meth c H locs cells slots Q2 f := fun T hT X => by
  obtain ⟨t, a, b⟩ := k T hT X
  exact ⟨t, a, h t b⟩
/-- what is left to show: the small machine's law answers 1 -/
def zq_goal : Prop := ∀ (L : Nat) (xs : Nat → Int32), L ≤ 384 → ∃ (Fu : Nat) (gE : zq_G), zq_ev 60 Fu 0 [.ref 1000] (zq_g0 L xs) = some (some (.int 1), gE) ∧ gE.1.1 ≤ 1000 ∧ gE.1.2.1 ≤ 7302250
theorem zq_whole (hgoal : zq_goal) {p : Program} {e : Env} {s : State} {m : MethodId} {below : List Frame} {meth : Method} {c : Code} (l : Launch) {b L : Nat} {xs : Nat → Int32} (hL : L ≤ 384) (C0 : lw_At p s m meth c b L xs) : W p l e room_1 s m #[Value.ref b] below meth c s.heap [] 0 0 (lw_Z below #[Value.ref b] s) (entryFrame m ([Value.ref b] : List Value).toArray 4) := by
  obtain ⟨hx, hb, hr, hml, hown, hts, hX, hbl, hlocks, hgv⟩ := C0
  have ht : ∀ w ∈ zq_tb, w.before #[Value.ref b] s = true := fun w hw => hts w (List.mem_filter.mp hw).1
  have ht0 : ∀ w ∈ zq_tb, w.before #[] s = true := fun w hw => zq_word_moved (List.mem_filter.mp hw).2 (State.WarmedH.refl s) (ht w hw)
  have known : ∀ k, k < 6 → ∃ (cC : ClassId) (iS : Nat → Nat), u_Kn s (zq_cn k) (zq_T k) (zq_N k) cC iS := fun k hk => u_known ht (zq_tb_in k hk) (ht _ (zq_tb_at (zq_ip_ok k hk).2.1 rfl))
  obtain ⟨dC, dI, hKc⟩ : ∃ (dC : Nat → ClassId) (dI : Nat → Nat → Nat), ∀ k, k < 6 → u_Kn s (zq_cn k) (zq_T k) (zq_N k) (dC k) (dI k) := by
    refine ⟨fun k => if h : k < 6 then Classical.choose (known k h) else 0, fun k => if h : k < 6 then Classical.choose (Classical.choose_spec (known k h)) else fun _ => 0, fun k hk => ?_⟩
    simp only [hk, dif_pos]
    exact Classical.choose_spec (Classical.choose_spec (known k hk))
  obtain ⟨cI, hI1, hI2⟩ := zq_arr_int (ht0 _ (zq_tb_at zq_w_int rfl))
  obtain ⟨cR, hR1, hR2⟩ := zq_arr_ref (ht0 _ (zq_tb_at zq_w_over rfl))
  obtain ⟨Fu, gE, hev, hcells, hslots⟩ := hgoal L xs hL
  have hK : va_K (dC, dI) zq_cl (zq_tys cI cR) s := by
    refine ⟨fun k q hq => ?_, fun k q hq => ?_⟩
    · have hk : k < 6 := (List.getElem?_eq_some_iff.mp hq).1
      rw [zq_cl_at k hk] at hq
      cases hq
      exact hKc k hk
    · match k, hq with
      | 0, hq => cases hq; exact ⟨hI1, hI2⟩
      | 1, hq => cases hq; exact ⟨hR1, hR2⟩
      | k + 2, hq => simp [zq_tys] at hq
  let X : zq_X := ((dC, dI), (cI, cR), s.heap, b, L, xs)
  have hKX : zq_K X s := ⟨ht0, hK, hX, hbl⟩
  have F : zq_Fr X p s m #[Value.ref b] meth c 0 := ⟨hx, hb, hml, hown, fun h => absurd h (by decide), ht, hKX, hlocks, hr⟩
  have hH : zq_H X (zq_g0 L xs) s.heap := by
    refine ⟨by show 0 ≤ 1000; omega, rfl, fun j _ => rfl, rfl, fun k q hq => ?_, fun q _ => rfl⟩
    have h1 := (zq_ws_inv hq).1
    exact absurd h1 (Nat.not_lt_zero k)
  unfold zq_ev at hev
  split at hev
  · rename_i hlen
    have hm := zq_run_mono (fun z as g v g2 h => zq_ev_mono 59 Fu z as g v g2 h) _ _ _ _ _ _ _ hev
    have hw := zq_run_ok (l := l) (e := e) (below := below) (R := room_1) F hH (d := 59) (Fu := Fu) (vE := some (.int 1)) (gE := gE) ⟨by decide, by decide, ?_, ?_⟩ (fun z as g v g2 q0 q1 q2 => zq_ev_ok l X 59 Fu z as g v g2 q0 q1 q2) Fu 0 (zq_ent 0 [.ref 1000]) [] (zq_g0 L xs) hev _ s.heap [] (zq_loc_entry _ _ 0 _ hlen) hH va_S.rf (Nat.le_refl _) (Nat.le_refl _)
    · rw [Nat.sub_self, Nat.sub_self] at hw
      rw [lg_entry_eq]
      refine zq_W_mono ?_ hw
      rintro t ⟨o, h1, h2, ⟨h3, h4⟩, L', h5, h6⟩
      refine ⟨o, h1, h2, h3, h5.1, h5.2.1, ?_⟩
      have h7 := h5.2.2
      have h8 : s.sameButNew ({ t with vm := s.vm } : State) [] (gE.1.1 - 0) (gE.1.2.1 - 0) := State.sameButNew.drop_fresh (L := []) (J := L') h7 (fun x hx => h6 x hx)
      exact h8.mono (by have := h4.1; omega) (by omega)
    · show gE.1.1 - 0 ≤ 600000
      omega
    · show gE.1.2.1 - 0 ≤ 7302250
      omega
  · cases hev
