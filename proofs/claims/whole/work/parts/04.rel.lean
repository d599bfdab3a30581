/-! How the small machine's values, locals and heap stand in the real one: cell a is at B + a, the script at b. -/
def zq_a (B b a : Nat) : Nat := if a = 1000 then b else B + a
def zq_v (B b : Nat) (v : Value) : Value := match v with
  | .ref a => .ref (zq_a B b a)
  | v => v
theorem zq_v_cat (B b : Nat) (v : Value) : (zq_v B b v).category = v.category := by cases v <;> rfl
theorem zq_v_sum (B b : Nat) (st : List Value) : ((st.map (zq_v B b)).map fun v => v.category).sum = (st.map fun v => v.category).sum := by
  induction st with
  | nil => rfl
  | cons v r ih => simp only [List.map_cons, List.sum_cons, zq_v_cat, ih]
theorem zq_v_rf (B b : Nat) (r : Option Nat) : zq_v B b (va_rf r) = va_rf (r.map (zq_a B b)) := by cases r <;> rfl
def zq_nr (v : Value) : Bool := match v with
  | .retAddr _ => false
  | _ => true
def zq_en (B b : Nat) : Nat → List Value → List (Nat × Value)
  | _, [] => []
  | i, v :: r => if zq_nr v = true then (i, zq_v B b v) :: zq_en B b (i + 1) r else zq_en B b (i + 1) r
theorem zq_en_mem (B b : Nat) (q : Nat × Value) : ∀ (L : List Value) (i : Nat), q ∈ zq_en B b i L ↔ ∃ (j : Nat) (v : Value), L[j]? = some v ∧ zq_nr v = true ∧ q = (i + j, zq_v B b v) := by
  intro L
  induction L with
  | nil => intro i; simp [zq_en]
  | cons a r ih =>
    intro i
    have key : (∃ (j : Nat) (v : Value), (a :: r)[j]? = some v ∧ zq_nr v = true ∧ q = (i + j, zq_v B b v)) ↔ ((zq_nr a = true ∧ q = (i, zq_v B b a)) ∨ ∃ (j : Nat) (v : Value), r[j]? = some v ∧ zq_nr v = true ∧ q = (i + 1 + j, zq_v B b v)) := by
      constructor
      · rintro ⟨j, v, h1, h2, h3⟩
        cases j with
        | zero =>
          simp at h1
          subst h1
          exact Or.inl ⟨h2, h3⟩
        | succ j =>
          refine Or.inr ⟨j, v, by simpa using h1, h2, ?_⟩
          rw [h3, Nat.add_right_comm, Nat.add_assoc]
      · rintro (⟨h2, h3⟩ | ⟨j, v, h1, h2, h3⟩)
        · exact ⟨0, a, rfl, h2, h3⟩
        · refine ⟨j + 1, v, by simpa using h1, h2, ?_⟩
          rw [h3, Nat.add_right_comm, Nat.add_assoc]
    rw [key, ← ih (i + 1), show zq_en B b i (a :: r) = if zq_nr a = true then (i, zq_v B b a) :: zq_en B b (i + 1) r else zq_en B b (i + 1) r from rfl]
    by_cases h : zq_nr a = true
    · rw [if_pos h]; simp [h]
    · rw [if_neg h]; simp [h]
theorem zq_has_sub {ls : Array Slot} {nL : Nat} {l l' : List (Nat × Value)} (h : lv_has ls nL l) (hs : ∀ q ∈ l', q ∈ l) : lv_has ls nL l' := ⟨h.1, h.2.1, fun q hq => h.2.2 q (hs q hq)⟩
def zq_loc (B b : Nat) (L : List Value) (ls : Array Slot) (nL : Nat) : Prop := L.length = nL ∧ lv_has ls nL (zq_en B b 0 L)
theorem zq_loc.get {B b : Nat} {L : List Value} {ls : Array Slot} {nL k : Nat} {v : Value} (h : zq_loc B b L ls nL) (hk : zq_ld L k = v) (hv : zq_nr v = true) : ls[k]? = some (.val (zq_v B b v)) := by
  have h1 : L[k]? = some v := by
    unfold zq_ld at hk
    rw [List.getD_eq_getElem?_getD] at hk
    cases hc : L[k]? with
    | none => rw [hc] at hk; simp at hk; subst hk; cases hv
    | some w => rw [hc] at hk; simp at hk; rw [hk]
  have h2 := h.2.2.2 (k, zq_v B b v) ((zq_en_mem B b _ L 0).mpr ⟨k, v, h1, hv, by simp⟩)
  exact h2
theorem zq_s1_len : ∀ (L : List Value) (i : Nat) (v : Value), (zq_s1 L i v).length = L.length := by
  intro L
  induction L with
  | nil => intro i v; rfl
  | cons a r ih =>
    intro i v
    match i with
    | 0 => rfl
    | 1 => simp [zq_s1, ih]
    | n + 2 => simp [zq_s1, ih]
theorem zq_s1_get : ∀ (L : List Value) (i : Nat) (v : Value) (j : Nat), i < L.length → (zq_s1 L i v)[j]? = if j = i then some v else if j + 1 = i then (L[j]?).map zq_kill else L[j]? := by
  intro L
  induction L with
  | nil => intro i v j h; simp at h
  | cons a r ih =>
    intro i v j h
    match i, j with
    | 0, 0 => rfl
    | 0, j + 1 => simp [zq_s1]
    | 1, 0 => simp [zq_s1]
    | 1, j + 1 =>
      have := ih 0 v j (by simp at h; omega)
      simp only [zq_s1, List.getElem?_cons_succ, this]
      by_cases hj : j = 0
      · simp [hj]
      · simp [hj]
    | n + 2, 0 => simp [zq_s1]
    | n + 2, j + 1 =>
      have := ih (n + 1) v j (by simp at h; omega)
      simp only [zq_s1, List.getElem?_cons_succ, this]
      by_cases hj : j = n + 1
      · simp [hj]
      · simp [hj]
theorem zq_s2_len : ∀ (L : List Value) (i : Nat) (v : Value), (zq_s2 L i v).length = L.length := by
  intro L
  induction L with
  | nil => intro i v; rfl
  | cons a r ih =>
    intro i v
    match i with
    | 0 => cases r <;> rfl
    | 1 => simp [zq_s2, ih]
    | n + 2 => simp [zq_s2, ih]
theorem zq_s2_get : ∀ (L : List Value) (i : Nat) (v : Value) (j : Nat), i + 1 < L.length → (zq_s2 L i v)[j]? = if j = i then some v else if j = i + 1 then some (.retAddr 0) else if j + 1 = i then (L[j]?).map zq_kill else L[j]? := by
  intro L
  induction L with
  | nil => intro i v j h; simp at h
  | cons a r ih =>
    intro i v j h
    match i, j with
    | 0, 0 => rfl
    | 0, j + 1 =>
      cases r with
      | nil => simp at h
      | cons c r =>
        cases j with
        | zero => simp [zq_s2]
        | succ j => simp [zq_s2]
    | 1, 0 => simp [zq_s2]
    | 1, j + 1 =>
      have := ih 0 v j (by simp at h; omega)
      simp only [zq_s2, List.getElem?_cons_succ, this]
      by_cases hj : j = 0
      · simp [hj]
      · by_cases hj1 : j = 1
        · simp [hj1]
        · simp [hj, hj1]
    | n + 2, 0 => simp [zq_s2]
    | n + 2, j + 1 =>
      have := ih (n + 1) v j (by simp at h; omega)
      simp only [zq_s2, List.getElem?_cons_succ, this]
      by_cases hj : j = n + 1
      · simp [hj]
      · by_cases hj1 : j = n + 2
        · simp [hj1]
        · simp [hj, hj1]
theorem zq_kill_nr {v w : Value} (h : zq_kill v = w) (hw : zq_nr w = true) : w = v ∧ ¬ v.category = 2 := by
  subst h
  cases v <;> simp [zq_kill, zq_nr, Value.category] at hw ⊢
theorem zq_loc.set1 {B b : Nat} {L : List Value} {ls ls' : Array Slot} {nL i : Nat} {v : Value} (h : zq_loc B b L ls nL) (hi : i < nL) (h' : lv_has ls' nL ((i, zq_v B b v) :: (zq_en B b 0 L).filter (fun q => !(q.1 == i) && !(q.1 + 1 == i && q.2.category == 2)))) : zq_loc B b (zq_s1 L i v) ls' nL := by
  refine ⟨(zq_s1_len L i v).trans h.1, zq_has_sub h' fun q hq => ?_⟩
  obtain ⟨j, w, h1, h2, h3⟩ := (zq_en_mem B b q _ 0).mp hq
  rw [zq_s1_get L i v j (by rw [h.1]; exact hi)] at h1
  rw [Nat.zero_add] at h3
  subst h3
  by_cases hj : j = i
  · rw [if_pos hj] at h1
    cases h1
    rw [hj]
    exact List.mem_cons_self
  · rw [if_neg hj] at h1
    refine List.mem_cons_of_mem _ (List.mem_filter.mpr ?_)
    by_cases hj1 : j + 1 = i
    · rw [if_pos hj1] at h1
      cases hc : L[j]? with
      | none => rw [hc] at h1; cases h1
      | some w0 =>
        rw [hc] at h1
        obtain ⟨e1, e2⟩ := zq_kill_nr (Option.some.inj h1) h2
        subst e1
        refine ⟨(zq_en_mem B b _ L 0).mpr ⟨j, w, hc, h2, by rw [Nat.zero_add]⟩, ?_⟩
        simp [hj, zq_v_cat, e2]
    · rw [if_neg hj1] at h1
      exact ⟨(zq_en_mem B b _ L 0).mpr ⟨j, w, h1, h2, by rw [Nat.zero_add]⟩, by simp [hj, hj1]⟩
theorem zq_loc.set2 {B b : Nat} {L : List Value} {ls ls' : Array Slot} {nL i : Nat} {v : Value} (h : zq_loc B b L ls nL) (hi : i + 1 < nL) (h' : lv_has ls' nL ((i, zq_v B b v) :: (zq_en B b 0 L).filter (fun q => !(q.1 == i) && (!(q.1 == i + 1) && !(q.1 + 1 == i && q.2.category == 2))))) : zq_loc B b (zq_s2 L i v) ls' nL := by
  refine ⟨(zq_s2_len L i v).trans h.1, zq_has_sub h' fun q hq => ?_⟩
  obtain ⟨j, w, h1, h2, h3⟩ := (zq_en_mem B b q _ 0).mp hq
  rw [zq_s2_get L i v j (by rw [h.1]; exact hi)] at h1
  rw [Nat.zero_add] at h3
  subst h3
  by_cases hj : j = i
  · rw [if_pos hj] at h1
    cases h1
    rw [hj]
    exact List.mem_cons_self
  · rw [if_neg hj] at h1
    refine List.mem_cons_of_mem _ (List.mem_filter.mpr ?_)
    by_cases hj2 : j = i + 1
    · rw [if_pos hj2] at h1
      cases h1
      cases h2
    rw [if_neg hj2] at h1
    by_cases hj1 : j + 1 = i
    · rw [if_pos hj1] at h1
      cases hc : L[j]? with
      | none => rw [hc] at h1; cases h1
      | some w0 =>
        rw [hc] at h1
        obtain ⟨e1, e2⟩ := zq_kill_nr (Option.some.inj h1) h2
        subst e1
        refine ⟨(zq_en_mem B b _ L 0).mpr ⟨j, w, hc, h2, by rw [Nat.zero_add]⟩, ?_⟩
        simp [hj, hj2, zq_v_cat, e2]
    · rw [if_neg hj1] at h1
      exact ⟨(zq_en_mem B b _ L 0).mpr ⟨j, w, h1, h2, by rw [Nat.zero_add]⟩, by simp [hj, hj1, hj2]⟩
/-- the locals at a method's entry -/
theorem zq_fl2_in (B b : Nat) : ∀ (as : List Value) (i j : Nat) (v : Value), (zq_fl2 as)[j]? = some v → zq_nr v = true → (i + j, zq_v B b v) ∈ lv_args i (as.map (zq_v B b)) := by
  intro as
  induction as with
  | nil => intro i j v h; simp [zq_fl2] at h
  | cons a r ih =>
    intro i j v h hv
    have e : zq_fl2 (a :: r) = (if a.category = 2 then [a, .retAddr 0] else [a]) ++ zq_fl2 r := by simp [zq_fl2]
    rw [e] at h
    simp only [List.map_cons, lv_args, zq_v_cat]
    by_cases hc : a.category = 2
    · rw [if_pos hc] at h ⊢
      match j with
      | 0 => simp at h; subst h; exact List.mem_cons_self
      | 1 => simp at h; subst h; cases hv
      | j + 2 =>
        have h2 : (zq_fl2 r)[j]? = some v := by simpa using h
        have h3 := ih (i + 2) j v h2 hv
        rw [show i + 2 + j = i + (j + 2) by omega] at h3
        exact List.mem_cons_of_mem _ h3
    · rw [if_neg hc] at h ⊢
      match j with
      | 0 => simp at h; subst h; exact List.mem_cons_self
      | j + 1 =>
        have h2 : (zq_fl2 r)[j]? = some v := by simpa using h
        have h3 := ih (i + 1) j v h2 hv
        rw [show i + 1 + j = i + (j + 1) by omega] at h3
        exact List.mem_cons_of_mem _ h3
theorem zq_fl2_len (B b : Nat) (as : List Value) : (lg_sl (as.map (zq_v B b))).length = (zq_fl2 as).length := by
  induction as with
  | nil => rfl
  | cons a r ih =>
    have e : zq_fl2 (a :: r) = (if a.category = 2 then [a, .retAddr 0] else [a]) ++ zq_fl2 r := by simp [zq_fl2]
    have e2 : lg_sl ((a :: r).map (zq_v B b)) = (if a.category = 2 then [.val (zq_v B b a), .second] else [.val (zq_v B b a)]) ++ lg_sl (r.map (zq_v B b)) := by
      simp only [lg_sl, List.map_cons, List.flatMap_cons, zq_v_cat]
    rw [e, e2, List.length_append, List.length_append, ih]
    by_cases hc : a.category = 2 <;> simp [hc]
theorem zq_loc_entry (B b y : Nat) (as : List Value) (h : (zq_fl2 as).length ≤ zq_ml y) : zq_loc B b (zq_ent y as) ((lg_sl (as.map (zq_v B b)) ++ List.replicate (zq_ml y - (lg_sl (as.map (zq_v B b))).length) Slot.unset).toArray) (zq_ml y) := by
  refine ⟨by unfold zq_ent; rw [List.length_append, List.length_replicate]; omega, ?_⟩
  have h0 := lv_entry (as.map (zq_v B b)) (n := zq_ml y) (by rw [zq_fl2_len]; exact h)
  refine zq_has_sub h0 fun q hq => ?_
  obtain ⟨j, v, h1, h2, h3⟩ := (zq_en_mem B b q _ 0).mp hq
  unfold zq_ent at h1
  by_cases hj : j < (zq_fl2 as).length
  · rw [List.getElem?_append_left hj] at h1
    rw [h3]
    exact zq_fl2_in B b as 0 j v h1 h2
  · rw [List.getElem?_append_right (by omega), List.getElem?_replicate] at h1
    split at h1
    · cases h1; cases h2
    · cases h1
