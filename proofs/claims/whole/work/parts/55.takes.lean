/-! takes: whom it takes at least -/
def rk (v : Nat) : Nat := pcn v * 8 + v
def pu : Option Nat → Nat → Option Nat
  | none, u => some u
  | some v, u => if rk u < rk v then some u else some v
def px (ok : zq_I → Nat → Bool) (W : Nat) (nd : Nat → Nat) : Nat → zq_I → Nat → Option Nat → Option Nat
  | 0, _, u, o => pu o u
  | m + 1, M, u, o => fo (fun w o => if ok M w = true then px ok W nd m (zm_go M w) (u ||| nd w) o else o) W o
theorem px_s (ok : zq_I → Nat → Bool) (W : Nat) (nd : Nat → Nat) (m : Nat) (M : zq_I) (u : Nat) (o : Option Nat) : px ok W nd (m + 1) M u o = fo (fun w o => if ok M w = true then px ok W nd m (zm_go M w) (u ||| nd w) o else o) W o := rfl
def ach (ok : zq_I → Nat → Bool) (W : Nat) (nd : Nat → Nat) : Nat → zq_I → Nat → Nat → Prop
  | 0, _, u, v => u = v
  | m + 1, M, u, v => ∃ w, w < W ∧ ok M w = true ∧ ach ok W nd m (zm_go M w) (u ||| nd w) v
theorem px_spec {ok : zq_I → Nat → Bool} {W : Nat} {nd : Nat → Nat} : ∀ m M u o, (px ok W nd m M u o = none → o = none ∧ ∀ v, ¬ ach ok W nd m M u v) ∧ ∀ r, px ok W nd m M u o = some r → (ach ok W nd m M u r ∨ o = some r) ∧ (∀ v, ach ok W nd m M u v → rk r ≤ rk v) ∧ ∀ v, o = some v → rk r ≤ rk v := by
  intro m
  induction m with
  | zero =>
    intro M u o
    show (pu o u = none → _) ∧ ∀ r, pu o u = some r → _
    cases o with
    | none =>
      refine ⟨fun h => (by cases h), fun r h => ?_⟩
      have e : u = r := Option.some.inj h
      subst e
      exact ⟨Or.inl rfl, fun v hv => by cases hv; exact Nat.le_refl _, fun v hv => by cases hv⟩
    | some v0 =>
      by_cases q : rk u < rk v0
      · have e0 : pu (some v0) u = some u := if_pos q
        rw [e0]
        refine ⟨fun h => (by cases h), fun r h => ?_⟩
        have e : u = r := Option.some.inj h
        subst e
        exact ⟨Or.inl rfl, fun v hv => by cases hv; exact Nat.le_refl _, fun v hv => by cases hv; omega⟩
      · have e0 : pu (some v0) u = some v0 := if_neg q
        rw [e0]
        refine ⟨fun h => (by cases h), fun r h => ?_⟩
        have e : v0 = r := Option.some.inj h
        subst e
        exact ⟨Or.inr rfl, fun v hv => by cases hv; omega, fun v hv => by cases hv; exact Nat.le_refl _⟩
  | succ m ih =>
    intro M u o
    rw [px_s]
    have key : ∀ v, (fo (fun w o => if ok M w = true then px ok W nd m (zm_go M w) (u ||| nd w) o else o) v o = none → o = none ∧ ∀ w, w < v → ok M w = true → ∀ x, ¬ ach ok W nd m (zm_go M w) (u ||| nd w) x) ∧ ∀ r, fo (fun w o => if ok M w = true then px ok W nd m (zm_go M w) (u ||| nd w) o else o) v o = some r → ((∃ w, w < v ∧ ok M w = true ∧ ach ok W nd m (zm_go M w) (u ||| nd w) r) ∨ o = some r) ∧ (∀ w, w < v → ok M w = true → ∀ x, ach ok W nd m (zm_go M w) (u ||| nd w) x → rk r ≤ rk x) ∧ ∀ x, o = some x → rk r ≤ rk x := by
      intro v
      induction v with
      | zero => exact ⟨fun h => ⟨h, fun w hw => absurd hw (Nat.not_lt_zero _)⟩, fun r h => ⟨Or.inr h, fun w hw => absurd hw (Nat.not_lt_zero _), fun x hx => by
          have h2 : o = some r := h
          rw [h2] at hx; cases hx; exact Nat.le_refl _⟩⟩
      | succ v ihv =>
        simp only [fo_s]
        generalize fo (fun w o => if ok M w = true then px ok W nd m (zm_go M w) (u ||| nd w) o else o) v o = R at ihv
        obtain ⟨i1, i2⟩ := ihv
        by_cases e : ok M v = true
        · rw [if_pos e]
          obtain ⟨k1, k2⟩ := ih (zm_go M v) (u ||| nd v) R
          refine ⟨fun h => ?_, fun r h => ?_⟩
          · obtain ⟨a1, a2⟩ := k1 h
            obtain ⟨a3, a4⟩ := i1 a1
            refine ⟨a3, fun w hw hok x => ?_⟩
            by_cases q : w = v
            · subst q; exact a2 x
            · exact a4 w (by omega) hok x
          · obtain ⟨a1, a2, a3⟩ := k2 r h
            refine ⟨?_, fun w hw hok x hx => ?_, fun x hx => ?_⟩
            · rcases a1 with a1 | a1
              · exact Or.inl ⟨v, by omega, e, a1⟩
              · rcases (i2 r a1).1 with ⟨w, c1, c2⟩ | c1
                · exact Or.inl ⟨w, by omega, c2⟩
                · exact Or.inr c1
            · by_cases q : w = v
              · subst q; exact a2 x hx
              · cases hR : R with
                | none => exact absurd hx ((i1 hR).2 w (by omega) hok x)
                | some r0 => exact Nat.le_trans (a3 r0 hR) ((i2 r0 hR).2.1 w (by omega) hok x hx)
            · cases hR : R with
              | none => rw [(i1 hR).1] at hx; cases hx
              | some r0 => exact Nat.le_trans (a3 r0 hR) ((i2 r0 hR).2.2 x hx)
        · rw [if_neg e]
          refine ⟨fun h => ⟨(i1 h).1, fun w hw hok => ?_⟩, fun r h => ⟨?_, fun w hw hok => ?_, (i2 r h).2.2⟩⟩
          · by_cases q : w = v
            · subst q; exact absurd hok e
            · exact (i1 h).2 w (by omega) hok
          · rcases (i2 r h).1 with ⟨w, c1, c2⟩ | c1
            · exact Or.inl ⟨w, by omega, c2⟩
            · exact Or.inr c1
          · by_cases q : w = v
            · subst q; exact absurd hok e
            · exact (i2 r h).2.1 w (by omega) hok
    obtain ⟨k1, k2⟩ := key W
    refine ⟨fun h => ⟨(k1 h).1, ?_⟩, fun r h => ⟨?_, ?_, (k2 r h).2.2⟩⟩
    · rintro v ⟨w, hw, hok, hv⟩
      exact (k1 h).2 w hw hok v hv
    · rcases (k2 r h).1 with q | q
      · exact Or.inl q
      · exact Or.inr q
    · rintro v ⟨w, hw, hok, hv⟩
      exact (k2 r h).2.1 w hw hok v hv
theorem rk_mono : ∀ u, u < 8 → ∀ x, x < 8 → rk u ≤ rk (u ||| x) ∧ u ||| x < 8 := by decide
theorem rk_lt : ∀ u, u < 8 → rk u < 32 := by decide
theorem rk_inj : ∀ u, u < 8 → ∀ x, x < 8 → rk u = rk x → u = x := by decide
theorem px_skip {ok : zq_I → Nat → Bool} {W : Nat} {nd : Nat → Nat} (hnd : ∀ w, w < W → nd w < 8) : ∀ m M u v, u < 8 → rk v ≤ rk u → px ok W nd m M u (some v) = some v := by
  intro m
  induction m with
  | zero => intro M u v hu h; exact if_neg (by omega)
  | succ m ih =>
    intro M u v hu h
    rw [px_s]
    have key : ∀ x, x ≤ W → fo (fun w o => if ok M w = true then px ok W nd m (zm_go M w) (u ||| nd w) o else o) x (some v) = some v := by
      intro x
      induction x with
      | zero => intro _; rfl
      | succ x ihx =>
        intro hx
        simp only [fo_s]
        rw [ihx (by omega)]
        have := rk_mono u hu (nd x) (hnd x (by omega))
        split
        · exact ih _ _ _ this.2 (by omega)
        · rfl
    exact key W (Nat.le_refl _)
theorem zb_or8 : ∀ a, a < 8 → ∀ g, g < 8 → nI a ||| nI g = nI (a ||| g) := by decide
theorem zb_sub8 : ∀ a, a < 8 → ∀ s, s < 8 → ((nI a &&& (nI s ^^^ (-1)) = 0) ↔ a ||| s = s) := by decide
theorem zb_trn8 : ∀ a, a < 8 → ∀ b, b < 8 → ∀ c, c < 8 → a ||| b = b → b ||| c = c → a ||| c = c := by decide +kernel
theorem zb_sx8 : ∀ u, u < 8 → ∀ x, x < 8 → ∀ v, v < 8 → (u ||| x) ||| v = v → x ||| v = v := by decide +kernel
theorem zb_tr8 (u : Nat) (hu : u < 8) (x : Nat) (hx : x < 8) (v : Nat) (hv : v < 8) (s : Nat) (hs : s < 8) (h1 : (u ||| x) ||| v = v) (h2 : v ||| s = s) : x ||| s = s ∧ (u ||| x) ||| s = s := ⟨zb_trn8 x hx v hv s hs (zb_sx8 u hu x hx v hv h1) h2, zb_trn8 _ (rk_mono u hu x hx).2 v hv s hs h1 h2⟩
theorem zb_un8 : ∀ u, u < 8 → ∀ x, x < 8 → ∀ s, s < 8 → u ||| s = s → x ||| s = s → (u ||| x) ||| s = s := by decide +kernel
theorem zb_sf8 : ∀ u, u < 8 → ∀ x, x < 8 → ∀ v, v < 8 → (u ||| x) ||| v = v → u ||| v = v := by decide +kernel
theorem zb_ss8 : ∀ u, u < 8 → u ||| u = u ∧ 0 ||| u = u := by decide
theorem ach_lt {ok : zq_I → Nat → Bool} {W P : Nat} {nd : Nat → Nat} (hP : P ≤ 3) (hnd : ∀ w, w < W → nd w < 2 ^ P) : ∀ m M u v, u < 2 ^ P → ach ok W nd m M u v → v < 2 ^ P ∧ u ||| v = v := by
  have h8 := zb_p8 P hP
  intro m
  induction m with
  | zero =>
    intro M u v hu h
    have e : u = v := h
    subst e
    exact ⟨hu, (zb_ss8 u (by omega)).1⟩
  | succ m ih =>
    rintro M u v hu ⟨w, hw, hok, h⟩
    have h2 := hnd w hw
    obtain ⟨a1, a2⟩ := ih _ _ _ (Nat.or_lt_two_pow hu h2) h
    exact ⟨a1, zb_sf8 u (by omega) (nd w) (by omega) v (by omega) a2⟩
theorem fo_pos {p : Nat → Bool} {f : Nat → Nat} : ∀ v, 0 < fo (fun w s => if p w = true then s + f w else s) v 0 ↔ ∃ w, w < v ∧ p w = true ∧ 0 < f w := by
  intro v
  induction v with
  | zero => exact ⟨fun h => absurd h (Nat.lt_irrefl _), fun ⟨w, hw, _⟩ => absurd hw (Nat.not_lt_zero _)⟩
  | succ v ih =>
    simp only [fo_s]
    constructor
    · intro h
      by_cases e : p v = true
      · rw [if_pos e] at h
        by_cases q : 0 < f v
        · exact ⟨v, by omega, e, q⟩
        · obtain ⟨w, h1, h2⟩ := ih.mp (by omega)
          exact ⟨w, by omega, h2⟩
      · rw [if_neg e] at h
        obtain ⟨w, h1, h2⟩ := ih.mp h
        exact ⟨w, by omega, h2⟩
    · rintro ⟨w, h1, h2, h3⟩
      by_cases q : w = v
      · subst q; rw [if_pos h2]; omega
      · have := ih.mpr ⟨w, by omega, h2, h3⟩
        split <;> omega
section Z55
variable {N ca cb cs c d W P D n k w ch : Nat} {hi C C2 M H K : zq_I} {hl : zq_J} {Q : Option Value → zq_G → Prop} {nd : Nat → Nat} {may b0 : Int32}
theorem zm_needs_go : zm_needs (zm_go M w) = zm_needs M := by
  funext v
  unfold zm_needs
  rw [zm_go_o (by omega) (by omega) (by omega), zm_go_o (by omega) (by omega) (by omega)]
theorem okm_S {S : Nat} (hS : S < 8) (hn : zm_needs M w = nI (nd w)) (h8 : nd w < 8) : okm W P (nI S) M w = (decide (nd w ||| S = S) && okm W P 7 M w) := by
  unfold okm
  rw [hn, zb_no7 _ h8, decide_eq_true (show (0 : Int32) = 0 from rfl), Bool.true_and]
  congr 1
  exact decide_eq_decide.mpr (zb_sub8 _ h8 _ hS)
theorem cnp_ach {S : Nat} (hP : P ≤ 3) (hS : S < 2 ^ P) (hnd : ∀ w, w < W → nd w < 2 ^ P) : ∀ m M u, (∀ w, w < W → zm_needs M w = nI (nd w)) → u < 2 ^ P → u ||| S = S → (0 < cnp (okm W P (nI S)) W m M ↔ ∃ v, ach (okm W P 7) W nd m M u v ∧ v ||| S = S) := by
  have h8 := zb_p8 P hP
  intro m
  induction m with
  | zero =>
    intro M u hn hu hS2
    exact ⟨fun _ => ⟨u, rfl, hS2⟩, fun _ => Nat.one_pos⟩
  | succ m ih =>
    intro M u hn hu hS2
    rw [cnp_s, fo_pos]
    constructor
    · rintro ⟨w, hw, hok, hpos⟩
      have n8 := hnd w hw
      rw [okm_S (by omega) (hn w hw) (by omega), Bool.and_eq_true, decide_eq_true_eq] at hok
      obtain ⟨v, a1, a2⟩ := (ih (zm_go M w) (u ||| nd w) (by rw [zm_needs_go]; exact hn) (Nat.or_lt_two_pow hu n8) (zb_un8 u (by omega) _ (by omega) S (by omega) hS2 hok.1)).mp hpos
      exact ⟨v, ⟨w, hw, hok.2, a1⟩, a2⟩
    · rintro ⟨v, ⟨w, hw, hok, a1⟩, a2⟩
      have n8 := hnd w hw
      obtain ⟨v8, sub⟩ := ach_lt hP hnd _ _ _ _ (Nat.or_lt_two_pow hu n8) a1
      have t8 := zb_tr8 u (by omega) (nd w) (by omega) v (by omega) S (by omega) sub a2
      refine ⟨w, hw, ?_, (ih (zm_go M w) (u ||| nd w) (by rw [zm_needs_go]; exact hn) (Nat.or_lt_two_pow hu n8) t8.2).mpr ⟨v, a1, a2⟩⟩
      rw [okm_S (by omega) (hn w hw) (by omega), Bool.and_eq_true, decide_eq_true_eq]
      exact ⟨t8.1, hok⟩
/-- the reference's choice among sets -/
def tkn (q : Nat → Bool) (j : Nat) : Option Nat → Option Nat
  | none => if q j = true then some j else none
  | some b => if pcn j < pcn b then (if q j = true then some j else some b) else some b
def tkf (q : Nat → Bool) : Nat → Option Nat
  | 0 => none
  | j + 1 => tkn q j (tkf q j)
theorem tkf_s (q : Nat → Bool) (j : Nat) : tkf q (j + 1) = tkn q j (tkf q j) := rfl
theorem rk_new : ∀ j, j < 8 → ∀ b, b < j → (pcn j < pcn b → ∀ i, i < j → rk b ≤ rk i → rk j ≤ rk i) ∧ (¬ pcn j < pcn b → rk b ≤ rk j) := by decide +kernel
theorem tkf_spec (q : Nat → Bool) : ∀ j, j ≤ 8 → (tkf q j = none → ∀ i, i < j → q i = false) ∧ ∀ b, tkf q j = some b → b < j ∧ q b = true ∧ ∀ i, i < j → q i = true → rk b ≤ rk i := by
  intro j
  induction j with
  | zero => intro _; exact ⟨fun _ i hi => absurd hi (Nat.not_lt_zero _), fun b h => (by cases h)⟩
  | succ j ih =>
    intro hj
    obtain ⟨i1, i2⟩ := ih (by omega)
    rw [tkf_s]
    cases hb : tkf q j with
    | none =>
      have i3 := i1 hb
      by_cases e : q j = true
      · have e0 : tkn q j none = some j := if_pos e
        rw [e0]
        refine ⟨fun h => (by cases h), fun b h => ?_⟩
        cases h
        refine ⟨by omega, e, fun i hi hq => ?_⟩
        by_cases x : i = j
        · subst x; exact Nat.le_refl _
        · rw [i3 i (by omega)] at hq; cases hq
      · have e0 : tkn q j none = none := if_neg e
        rw [e0]
        refine ⟨fun _ i hi => ?_, fun b h => (by cases h)⟩
        by_cases x : i = j
        · subst x; simpa using e
        · exact i3 i (by omega)
    | some b0 =>
      obtain ⟨a1, a2, a3⟩ := i2 b0 hb
      obtain ⟨r1, r2⟩ := rk_new j (by omega) b0 a1
      have keep : (q j = true → rk b0 ≤ rk j) → ∀ b, some b0 = some b → b < j + 1 ∧ q b = true ∧ ∀ i, i < j + 1 → q i = true → rk b ≤ rk i := by
        intro hk b h
        cases h
        refine ⟨by omega, a2, fun i hi hq => ?_⟩
        by_cases x : i = j
        · subst x; exact hk hq
        · exact a3 i (by omega) hq
      by_cases e : pcn j < pcn b0
      · by_cases e2 : q j = true
        · have e0 : tkn q j (some b0) = some j := (if_pos e).trans (if_pos e2)
          rw [e0]
          refine ⟨fun h => (by cases h), fun b h => ?_⟩
          cases h
          refine ⟨by omega, e2, fun i hi hq => ?_⟩
          by_cases x : i = j
          · subst x; exact Nat.le_refl _
          · exact r1 e i (by omega) (a3 i (by omega) hq)
        · have e0 : tkn q j (some b0) = some b0 := (if_pos e).trans (if_neg e2)
          rw [e0]
          exact ⟨fun h => (by cases h), keep fun h => absurd h e2⟩
      · have e0 : tkn q j (some b0) = some b0 := if_neg e
        rw [e0]
        exact ⟨fun h => (by cases h), keep fun _ => r2 e⟩
theorem px_tkf (hP : P ≤ 3) (hnd : ∀ w, w < W → nd w < 2 ^ P) (hn : ∀ w, w < W → zm_needs M w = nI (nd w)) : px (okm W P 7) W nd n M 0 none = tkf (fun S => decide (0 < cnp (okm W P (nI S)) W n M)) (2 ^ P) := by
  have h8 := zb_p8 P hP
  have p0 : 0 < 2 ^ P := Nat.pow_pos (by omega)
  obtain ⟨t1, t2⟩ := tkf_spec (fun S => decide (0 < cnp (okm W P (nI S)) W n M)) (2 ^ P) h8
  obtain ⟨s1, s2⟩ := px_spec (ok := okm W P 7) (W := W) (nd := nd) n M 0 none
  have ca : ∀ S, S < 2 ^ P → (0 < cnp (okm W P (nI S)) W n M ↔ ∃ v, ach (okm W P 7) W nd n M 0 v ∧ v ||| S = S) := fun S hS => cnp_ach hP hS hnd n M 0 hn p0 (zb_ss8 S (by omega)).2
  cases hp : px (okm W P 7) W nd n M 0 none with
  | none =>
    have a1 := (s1 hp).2
    cases ht : tkf (fun S => decide (0 < cnp (okm W P (nI S)) W n M)) (2 ^ P) with
    | none => rfl
    | some b =>
      obtain ⟨b1, b2, -⟩ := t2 b ht
      obtain ⟨v, hv, -⟩ := (ca b b1).mp (of_decide_eq_true b2)
      exact absurd hv (a1 v)
  | some r =>
    obtain ⟨a1, a2, -⟩ := s2 r hp
    have a3 : ach (okm W P 7) W nd n M 0 r := by
      rcases a1 with a1 | a1
      · exact a1
      · cases a1
    obtain ⟨r8, -⟩ := ach_lt hP hnd n M 0 r p0 a3
    have hq : 0 < cnp (okm W P (nI r)) W n M := (ca r r8).mpr ⟨r, a3, (zb_ss8 r (by omega)).1⟩
    cases ht : tkf (fun S => decide (0 < cnp (okm W P (nI S)) W n M)) (2 ^ P) with
    | none =>
      have := t1 ht r r8
      rw [decide_eq_false_iff_not] at this
      exact absurd hq this
    | some b =>
      obtain ⟨b1, b2, b3⟩ := t2 b ht
      obtain ⟨v, hv, hs⟩ := (ca b b1).mp (of_decide_eq_true b2)
      obtain ⟨v8, -⟩ := ach_lt hP hnd n M 0 v p0 hv
      have m1 := b3 r r8 (decide_eq_true hq)
      have m2 := a2 v hv
      have m3 := (rk_mono v (by omega) b (by omega)).1
      rw [hs] at m3
      rw [rk_inj r (by omega) b (by omega) (by omega)]
def PR (C : zq_I) : Option Nat → Prop
  | none => C 54 6 = (-9)
  | some v => v < 8 ∧ C 54 6 = nI v
theorem PR_fr {o : Option Nat} (h : PR C o) (e1 : C2 54 6 = C 54 6) : PR C2 o := by
  cases o with
  | none => exact e1.trans h
  | some v => exact ⟨h.1, e1.trans h.2⟩
theorem k_Search_rank {s : Nat} {g : zq_G} (hs : s < 128) : zq_P (d + 1) 82 0 [.int (nI s)] [] g Q = Q (some (.int (nI (rk s)))) g := by
  obtain ⟨S, hi, hl, hr⟩ := g
  have e : nI (pcn s) * 8 = nI (pcn s * 8) := pk_mul _ 8
  simp only [zr82_0, zr82_1, zr82_4, zr82_6, zr82_7, zr82_8, zr82_9, zq_kill_int, zq_kill_ref, zq_kill_ret, zq_kill_null, zq_kill_long, zq_rf_some, zq_rf_none, true_and, and_true, true_implies, not_true_eq_false, not_false_eq_true, false_implies, Bool.true_eq_false, Bool.false_eq_true, nI_1, zb_i0, zb_i1, zb_i2, Option.toList_some, Option.toList_none, List.cons_append, List.nil_append, true_or, or_true, implies_true, k_bitCount hs, e, nI_add, rk]
theorem k_Search_seekPeople (hc : c = 36 ∨ c = 45) (hn : n ≤ 6) (hnd : ∀ w, w < W → nd w < 8) : ∀ m k, k + m = n → ∀ e, m ≤ e → ∀ D C M u o, Cor c W P D C M → (∀ w, w < W → zm_needs M w = nI (nd w)) → D + m ≤ 200 → C 54 4 = nI n → u < 8 → PR C o →
    ∃ C', qfr C C' ∧ PR C' (px (okm W P 7) W nd m M u o) ∧ ∀ Q, zq_P (e + 5) 81 0 [.ref 54, .int (nI k), .int (nI u), .retAddr 0, .retAddr 0, .retAddr 0, .retAddr 0] [] (zq_SG N, C, hl, zq_HR ca cb c) Q = Q none (zq_SG N, C', hl, zq_HR ca cb c) := by
  have hct := zq_Ct_ok (N := N) (ca := ca) (cb := cb) (cs := c) hc
  have hct2 := hct
  unfold zq_Ct at hct2
  have ho := zq_Co_ok (N := N) (ca := ca) (cb := cb) (cs := c) (o := 55) (Or.inr rfl)
  intro m
  induction m with
  | zero =>
    intro k hk e _ D C M u o hcor hne hD h4 hu ho'
    have hkn : k = n := by omega
    subst hkn
    have q1 : (nI k < nI k) = False := eq_false (nI_nlt (Nat.le_refl _) (by omega))
    have ru := fun g Q => k_Search_rank (d := e + 3) (Q := Q) (g := g) (s := u) (by omega)
    rw [show e + 3 + 1 = e + 4 from rfl] at ru
    cases o with
    | none =>
      have hb' : C 54 6 = (-9) := ho'
      have z4 : (C 54 6 = (-9)) = True := eq_true hb'
      refine ⟨zq_u C 54 6 (nI u), qfr_54, ⟨hu, zq_u_eq⟩, fun Q => ?_⟩
      simp only [zr81_0, zr81_1, zr81_4, zr81_6, zr81_9, zr81_10, zr81_13, zr81_14, zr81_17, zr81_20, zr81_23, zr81_24, zr81_25, zr81_26, zr81_29, zr81_32, zr81_33, zr81_34, zr81_37, zr81_38, zr81_39, zr81_42, zr81_43, zr81_44, zr81_48, zr81_49, zr81_52, zr81_55, zr81_58, zr81_59, zr81_61, zr81_62, zr81_63, zr81_64, zr81_67, zr81_70, zr81_71, zr81_74, zr81_77, zr81_79, zr81_80, zr81_82, zr81_83, zr81_86, zr81_89, zr81_91, zr81_92, zr81_95, zr81_96, zr81_99, zr81_101, zr81_104, zr81_105, zr81_106, zr81_107, zr81_108, zr81_109, zr81_110, zr81_113, zr81_116, zr81_118, zr81_119, zr81_120, zr81_123, zr81_124, zr81_127, zr81_128, zr81_131, zr81_133, zr81_135, zr81_137, zr81_140, zr81_143, zr81_146, zs_q0 N, zh_q0 ca cb c, zq_kill_int, zq_kill_ref, zq_kill_ret, zq_kill_null, zq_kill_long, zq_rf_some, zq_rf_none, true_and, and_true, true_implies, not_true_eq_false, not_false_eq_true, false_implies, Bool.true_eq_false, Bool.false_eq_true, nI_1, zb_i0, zb_i1, zb_i2, Option.toList_some, Option.toList_none, List.cons_append, List.nil_append, true_or, or_true, implies_true, zb_it, zb_if, zb_10, zb_00, zb_n5, zb_n2, zb_m1, zb_m3, zb_m9, or_true, true_or, or_false, false_or, h4, z4, q1]
    | some v =>
      obtain ⟨z1, z2⟩ := ho'
      have z4 : (C 54 6 = (-9)) = False := by rw [z2]; exact nI_n9 (by omega)
      have rv := fun g Q => k_Search_rank (d := e + 3) (Q := Q) (g := g) (s := v) (by omega)
      rw [show e + 3 + 1 = e + 4 from rfl] at rv
      have b1 := rk_lt u hu
      have b2 := rk_lt v z1
      by_cases hlt : rk u < rk v
      · have z6 : (nI (rk u) < nI (rk v)) = True := eq_true ((nI_ltI (by omega) (by omega)).mpr hlt)
        have e0 : px (okm W P 7) W nd 0 M u (some v) = some u := if_pos hlt
        rw [e0]
        refine ⟨zq_u C 54 6 (nI u), qfr_54, ⟨hu, zq_u_eq⟩, fun Q => ?_⟩
        simp only [zr81_0, zr81_1, zr81_4, zr81_6, zr81_9, zr81_10, zr81_13, zr81_14, zr81_17, zr81_20, zr81_23, zr81_24, zr81_25, zr81_26, zr81_29, zr81_32, zr81_33, zr81_34, zr81_37, zr81_38, zr81_39, zr81_42, zr81_43, zr81_44, zr81_48, zr81_49, zr81_52, zr81_55, zr81_58, zr81_59, zr81_61, zr81_62, zr81_63, zr81_64, zr81_67, zr81_70, zr81_71, zr81_74, zr81_77, zr81_79, zr81_80, zr81_82, zr81_83, zr81_86, zr81_89, zr81_91, zr81_92, zr81_95, zr81_96, zr81_99, zr81_101, zr81_104, zr81_105, zr81_106, zr81_107, zr81_108, zr81_109, zr81_110, zr81_113, zr81_116, zr81_118, zr81_119, zr81_120, zr81_123, zr81_124, zr81_127, zr81_128, zr81_131, zr81_133, zr81_135, zr81_137, zr81_140, zr81_143, zr81_146, zs_q0 N, zh_q0 ca cb c, zq_kill_int, zq_kill_ref, zq_kill_ret, zq_kill_null, zq_kill_long, zq_rf_some, zq_rf_none, true_and, and_true, true_implies, not_true_eq_false, not_false_eq_true, false_implies, Bool.true_eq_false, Bool.false_eq_true, nI_1, zb_i0, zb_i1, zb_i2, Option.toList_some, Option.toList_none, List.cons_append, List.nil_append, true_or, or_true, implies_true, zb_it, zb_if, zb_10, zb_00, zb_n5, zb_n2, zb_m1, zb_m3, zb_m9, or_true, true_or, or_false, false_or, h4, z4, ru, z2, rv, z6, q1]
        simp only [nI_n9 (show v < 2147483648 by omega), not_false_eq_true, true_implies, false_implies, true_and, and_true]
      · have z6 : (nI (rk u) < nI (rk v)) = False := eq_false (nI_nlt (by omega) (by omega))
        have e0 : px (okm W P 7) W nd 0 M u (some v) = some v := if_neg hlt
        rw [e0]
        refine ⟨C, qfr_rfl C, ⟨z1, z2⟩, fun Q => ?_⟩
        simp only [zr81_0, zr81_1, zr81_4, zr81_6, zr81_9, zr81_10, zr81_13, zr81_14, zr81_17, zr81_20, zr81_23, zr81_24, zr81_25, zr81_26, zr81_29, zr81_32, zr81_33, zr81_34, zr81_37, zr81_38, zr81_39, zr81_42, zr81_43, zr81_44, zr81_48, zr81_49, zr81_52, zr81_55, zr81_58, zr81_59, zr81_61, zr81_62, zr81_63, zr81_64, zr81_67, zr81_70, zr81_71, zr81_74, zr81_77, zr81_79, zr81_80, zr81_82, zr81_83, zr81_86, zr81_89, zr81_91, zr81_92, zr81_95, zr81_96, zr81_99, zr81_101, zr81_104, zr81_105, zr81_106, zr81_107, zr81_108, zr81_109, zr81_110, zr81_113, zr81_116, zr81_118, zr81_119, zr81_120, zr81_123, zr81_124, zr81_127, zr81_128, zr81_131, zr81_133, zr81_135, zr81_137, zr81_140, zr81_143, zr81_146, zs_q0 N, zh_q0 ca cb c, zq_kill_int, zq_kill_ref, zq_kill_ret, zq_kill_null, zq_kill_long, zq_rf_some, zq_rf_none, true_and, and_true, true_implies, not_true_eq_false, not_false_eq_true, false_implies, Bool.true_eq_false, Bool.false_eq_true, nI_1, zb_i0, zb_i1, zb_i2, Option.toList_some, Option.toList_none, List.cons_append, List.nil_append, true_or, or_true, implies_true, zb_it, zb_if, zb_10, zb_00, zb_n5, zb_n2, zb_m1, zb_m3, zb_m9, or_true, true_or, or_false, false_or, h4, ru, z2, rv, z6, q1, nI_n9 (show v < 2147483648 by omega)]
  | succ m ih =>
    intro k hk e he D C M u o hcor hne hD h4 hu ho'
    obtain ⟨e, rfl⟩ : ∃ e', e = e' + 1 := ⟨e - 1, by omega⟩
    rw [show e + 1 + 5 = e + 6 from rfl]
    obtain ⟨⟨w1, w2, w3, w4, w5, w6⟩, -, wa⟩ := hcor.facts hc
    have q1 : (nI k < nI n) = True := eq_true ((nI_ltI (by omega) (by omega)).mpr (by omega))
    have op := fun Q => k_Search_open7 (N := N) (ca := ca) (cb := cb) (d := e + 1) (hl := hl) (Q := Q) hc hcor
    rw [show e + 1 + 4 = e + 5 from rfl] at op
    generalize hg : (fun w o => if okm W P 7 M w = true then px (okm W P 7) W nd m (zm_go M w) (u ||| nd w) o else o) = g
    have hgo : ∀ w b, okm W P 7 M w = false → g w b = b := fun w b e => by rw [← hg]; exact if_neg (by rw [e]; decide)
    have hgy : ∀ w b, okm W P 7 M w = true → g w b = px (okm W P 7) W nd m (zm_go M w) (u ||| nd w) b := fun w b e => by rw [← hg]; exact if_pos e
    have hex : px (okm W P 7) W nd (m + 1) M u o = fo g W o := by rw [← hg]; rfl
    have main : ∃ C', qfr C C' ∧ PR C' (fo g W o) ∧ ∀ Q, zq_P (e + 6) 81 24 [.ref 54, .int (nI k), .int (nI u), .retAddr 0, .retAddr 0, .retAddr 0, .retAddr 0] [] (zq_SG N, C, hl, zq_HR ca cb c) Q = Q none (zq_SG N, C', hl, zq_HR ca cb c) := by
      obtain ⟨⟨C', v5, v6⟩, ⟨i1, i3⟩, loop⟩ := zq_loopE (β := Option Value → zq_G → Prop) (n := W) (I := fun v (x : zq_I × Value × Value) => qfr C x.1 ∧ PR x.1 (fo g v o)) (f := fun Q v (x : zq_I × Value × Value) => zq_P (e + 6) 81 46 [.ref 54, .int (nI k), .int (nI u), .int (zb_set (okm W P 7 M) W), .int (nI v), x.2.1, x.2.2] [] (zq_SG N, x.1, hl, zq_HR ca cb c) Q) (fun v hv x hx => by
        obtain ⟨Cv, v5, v6⟩ := x
        obtain ⟨j1, j3⟩ := hx
        dsimp only at j1 j3
        have h3 : (nI v < nI W) = True := eq_true ((nI_ltI (by omega) (by omega)).mpr hv)
        have x1 : zq_xS (nI v) 7 := zb_x (by omega) (by omega)
        have x2 : (nI v).toNatClampNeg = v := zb_cl (by omega)
        have cw : Cv c 10 = nI W := by rw [j1.1 c (by omega) (by omega) (by omega)]; exact w3
        cases hbv : okm W P 7 M v with
        | false =>
          refine ⟨(Cv, v5, v6), ⟨j1, ?_⟩, fun Q => ?_⟩
          · rw [fo_s, hgo v _ hbv]; exact j3
          · dsimp only
            rw [zr81_46]
            simp only [zr81_0, zr81_1, zr81_4, zr81_6, zr81_9, zr81_10, zr81_13, zr81_14, zr81_17, zr81_20, zr81_23, zr81_24, zr81_25, zr81_26, zr81_29, zr81_32, zr81_33, zr81_34, zr81_37, zr81_38, zr81_39, zr81_42, zr81_43, zr81_44, zr81_48, zr81_49, zr81_52, zr81_55, zr81_58, zr81_59, zr81_61, zr81_62, zr81_63, zr81_64, zr81_67, zr81_70, zr81_71, zr81_74, zr81_77, zr81_79, zr81_80, zr81_82, zr81_83, zr81_86, zr81_89, zr81_91, zr81_92, zr81_95, zr81_96, zr81_99, zr81_101, zr81_104, zr81_105, zr81_106, zr81_107, zr81_108, zr81_109, zr81_110, zr81_113, zr81_116, zr81_118, zr81_119, zr81_120, zr81_123, zr81_124, zr81_127, zr81_128, zr81_131, zr81_133, zr81_135, zr81_137, zr81_140, zr81_143, zr81_146, zs_q0 N, zh_q0 ca cb c, hct.1, zq_kill_int, zq_kill_ref, zq_kill_ret, zq_kill_null, zq_kill_long, zq_rf_some, zq_rf_none, true_and, and_true, true_implies, not_true_eq_false, not_false_eq_true, false_implies, Bool.true_eq_false, Bool.false_eq_true, nI_1, zb_i0, zb_i1, zb_i2, Option.toList_some, Option.toList_none, List.cons_append, List.nil_append, true_or, or_true, implies_true, zb_it, zb_if, zb_10, zb_00, zb_n5, zb_n2, zb_m1, zb_m3, zb_m9, or_true, true_or, or_false, false_or, cw, h3, zb_bit w1 hv, hbv]
        | true =>
          have corp := hcor.q hc j1
          have o54 : zc_go Cv c 55 v 54 = Cv 54 := zc_go_o (by omega)
          have n8 := hnd v hv
          obtain ⟨C3, q1, q3, q4⟩ := ih (k + 1) (by omega) e (by omega) (D + 1) (zc_go Cv c 55 v) (zm_go M v) (u ||| nd v) (fo g v o) (corp.go hc hv (by omega)) (by rw [zm_needs_go]; exact hne) (by omega) (by rw [o54, j1.2 4 (by omega)]; exact h4) (rk_mono u hu _ n8).2 (PR_fr j3 (by rw [o54]))
          have go := fun Q => k_Course_goOn (d := e + 4) (hi := Cv) (hl := hl) (Q := Q) hct ho (by omega) cw w1 hv
          have c3w : C3 c 10 = nI W := by rw [q1.1 c (by omega) (by omega) (by omega), zc_go_o (by omega)]; exact cw
          have bk := fun Q => k_Course_goBack (d := e + 4) (hi := C3) (hl := hl) (Q := Q) (l := Cv 56 v) (a := Cv 55 3) hct ho (by omega) c3w w1 hv
          rw [show e + 4 + 1 = e + 5 from rfl] at go bk
          have qb := qfr_bk hc q1
          have c7 : zc_go Cv c 55 v (c + 7) v = nI (nd v) := by rw [zc_go_o (by omega), j1.1 (c + 7) (by omega) (by omega) (by omega), (wa v hv).2.1]; exact hne v hv
          refine ⟨(zc_bk C3 c 55 v (Cv 56 v) (Cv 55 3), .int (Cv 56 v), .int (Cv 55 3)), ⟨qfr_tr j1 qb, ?_⟩, fun Q => ?_⟩
          · dsimp only
            rw [fo_s, hgy v _ hbv]
            exact PR_fr q3 (by rw [zc_bk_o (by omega)])
          · dsimp only
            rw [zr81_46]
            simp only [zr81_1, zr81_4, zr81_6, zr81_9, zr81_10, zr81_13, zr81_14, zr81_17, zr81_20, zr81_23, zr81_24, zr81_25, zr81_26, zr81_29, zr81_32, zr81_33, zr81_34, zr81_37, zr81_38, zr81_39, zr81_42, zr81_43, zr81_44, zr81_48, zr81_49, zr81_52, zr81_55, zr81_58, zr81_59, zr81_61, zr81_62, zr81_63, zr81_64, zr81_67, zr81_70, zr81_71, zr81_74, zr81_77, zr81_79, zr81_80, zr81_82, zr81_83, zr81_86, zr81_89, zr81_91, zr81_92, zr81_95, zr81_96, zr81_99, zr81_101, zr81_104, zr81_105, zr81_106, zr81_107, zr81_108, zr81_109, zr81_110, zr81_113, zr81_116, zr81_118, zr81_119, zr81_120, zr81_123, zr81_124, zr81_127, zr81_128, zr81_131, zr81_133, zr81_135, zr81_137, zr81_140, zr81_143, zr81_146, zs_q0 N, zh_q0 ca cb c, hct2, zq_kill_int, zq_kill_ref, zq_kill_ret, zq_kill_null, zq_kill_long, zq_rf_some, zq_rf_none, true_and, and_true, true_implies, not_true_eq_false, not_false_eq_true, false_implies, Bool.true_eq_false, Bool.false_eq_true, nI_1, zb_i0, zb_i1, zb_i2, Option.toList_some, Option.toList_none, List.cons_append, List.nil_append, true_or, or_true, implies_true, zb_it, zb_if, zb_10, zb_00, zb_n5, zb_n2, zb_m1, zb_m3, zb_m9, or_true, true_or, or_false, false_or, cw, h3, x1, x2, zb_bit w1 hv, hbv, go, c7, zb_or8 u hu _ n8, q4, bk]) (C, .retAddr 0, .retAddr 0) ⟨qfr_rfl C, ho'⟩
      have fW : (nI W < nI W) = False := eq_false (nI_nlt (Nat.le_refl _) (by omega))
      dsimp only at i1 i3
      have cw : C' c 10 = nI W := by rw [i1.1 c (by omega) (by omega) (by omega)]; exact w3
      refine ⟨C', i1, i3, fun Q => ?_⟩
      have lp : zq_P (e + 6) 81 46 [.ref 54, .int (nI k), .int (nI u), .int (zb_set (okm W P 7 M) W), .int 0, .retAddr 0, .retAddr 0] [] (zq_SG N, C, hl, zq_HR ca cb c) Q = _ := loop Q
      simp only [zr81_0, zr81_1, zr81_4, zr81_6, zr81_9, zr81_10, zr81_13, zr81_14, zr81_17, zr81_20, zr81_23, zr81_24, zr81_25, zr81_26, zr81_29, zr81_32, zr81_33, zr81_34, zr81_37, zr81_38, zr81_39, zr81_42, zr81_43, zr81_44, zr81_48, zr81_49, zr81_52, zr81_55, zr81_58, zr81_59, zr81_61, zr81_62, zr81_63, zr81_64, zr81_67, zr81_70, zr81_71, zr81_74, zr81_77, zr81_79, zr81_80, zr81_82, zr81_83, zr81_86, zr81_89, zr81_91, zr81_92, zr81_95, zr81_96, zr81_99, zr81_101, zr81_104, zr81_105, zr81_106, zr81_107, zr81_108, zr81_109, zr81_110, zr81_113, zr81_116, zr81_118, zr81_119, zr81_120, zr81_123, zr81_124, zr81_127, zr81_128, zr81_131, zr81_133, zr81_135, zr81_137, zr81_140, zr81_143, zr81_146, zs_q0 N, zh_q0 ca cb c, zq_kill_int, zq_kill_ref, zq_kill_ret, zq_kill_null, zq_kill_long, zq_rf_some, zq_rf_none, true_and, and_true, true_implies, not_true_eq_false, not_false_eq_true, false_implies, Bool.true_eq_false, Bool.false_eq_true, nI_1, zb_i0, zb_i1, zb_i2, Option.toList_some, Option.toList_none, List.cons_append, List.nil_append, true_or, or_true, implies_true, zb_it, zb_if, zb_10, zb_00, zb_n5, zb_n2, zb_m1, zb_m3, zb_m9, or_true, true_or, or_false, false_or, h4, q1, op]
      refine Eq.trans lp ?_
      dsimp only
      rw [zr81_46]
      simp only [zr81_0, zr81_1, zr81_4, zr81_6, zr81_9, zr81_10, zr81_13, zr81_14, zr81_17, zr81_20, zr81_23, zr81_24, zr81_25, zr81_26, zr81_29, zr81_32, zr81_33, zr81_34, zr81_37, zr81_38, zr81_39, zr81_42, zr81_43, zr81_44, zr81_48, zr81_49, zr81_52, zr81_55, zr81_58, zr81_59, zr81_61, zr81_62, zr81_63, zr81_64, zr81_67, zr81_70, zr81_71, zr81_74, zr81_77, zr81_79, zr81_80, zr81_82, zr81_83, zr81_86, zr81_89, zr81_91, zr81_92, zr81_95, zr81_96, zr81_99, zr81_101, zr81_104, zr81_105, zr81_106, zr81_107, zr81_108, zr81_109, zr81_110, zr81_113, zr81_116, zr81_118, zr81_119, zr81_120, zr81_123, zr81_124, zr81_127, zr81_128, zr81_131, zr81_133, zr81_135, zr81_137, zr81_140, zr81_143, zr81_146, zs_q0 N, zh_q0 ca cb c, hct.1, zq_kill_int, zq_kill_ref, zq_kill_ret, zq_kill_null, zq_kill_long, zq_rf_some, zq_rf_none, true_and, and_true, true_implies, not_true_eq_false, not_false_eq_true, false_implies, Bool.true_eq_false, Bool.false_eq_true, nI_1, zb_i0, zb_i1, zb_i2, Option.toList_some, Option.toList_none, List.cons_append, List.nil_append, true_or, or_true, implies_true, zb_it, zb_if, zb_10, zb_00, zb_n5, zb_n2, zb_m1, zb_m3, zb_m9, or_true, true_or, or_false, false_or, cw, fW]
    rw [hex]
    cases o with
    | none =>
      have hb' : C 54 6 = (-9) := ho'
      have z4 : (C 54 6 = (-9)) = True := eq_true hb'
      obtain ⟨C', m1, m3, m4⟩ := main
      refine ⟨C', m1, m3, fun Q => ?_⟩
      simp only [zr81_0, zr81_1, zr81_4, zr81_6, zr81_9, zr81_10, zr81_13, zr81_14, zr81_17, zr81_20, zr81_23, zr81_25, zr81_26, zr81_29, zr81_32, zr81_33, zr81_34, zr81_37, zr81_38, zr81_39, zr81_42, zr81_43, zr81_44, zr81_48, zr81_49, zr81_52, zr81_55, zr81_58, zr81_59, zr81_61, zr81_62, zr81_63, zr81_64, zr81_67, zr81_70, zr81_71, zr81_74, zr81_77, zr81_79, zr81_80, zr81_82, zr81_83, zr81_86, zr81_89, zr81_91, zr81_92, zr81_95, zr81_96, zr81_99, zr81_101, zr81_104, zr81_105, zr81_106, zr81_107, zr81_108, zr81_109, zr81_110, zr81_113, zr81_116, zr81_118, zr81_119, zr81_120, zr81_123, zr81_124, zr81_127, zr81_128, zr81_131, zr81_133, zr81_135, zr81_137, zr81_140, zr81_143, zr81_146, zs_q0 N, zh_q0 ca cb c, zq_kill_int, zq_kill_ref, zq_kill_ret, zq_kill_null, zq_kill_long, zq_rf_some, zq_rf_none, true_and, and_true, true_implies, not_true_eq_false, not_false_eq_true, false_implies, Bool.true_eq_false, Bool.false_eq_true, nI_1, zb_i0, zb_i1, zb_i2, Option.toList_some, Option.toList_none, List.cons_append, List.nil_append, true_or, or_true, implies_true, zb_it, zb_if, zb_10, zb_00, zb_n5, zb_n2, zb_m1, zb_m3, zb_m9, or_true, true_or, or_false, false_or, z4, m4]
    | some v =>
      obtain ⟨z1, z2⟩ := id ho'
      have ru := fun g Q => k_Search_rank (d := e + 4) (Q := Q) (g := g) (s := u) (by omega)
      have rv := fun g Q => k_Search_rank (d := e + 4) (Q := Q) (g := g) (s := v) (by omega)
      rw [show e + 4 + 1 = e + 5 from rfl] at ru rv
      have b1 := rk_lt u hu
      have b2 := rk_lt v z1
      by_cases hlt : rk u < rk v
      · have z6 : (nI (rk u) < nI (rk v)) = True := eq_true ((nI_ltI (by omega) (by omega)).mpr hlt)
        obtain ⟨C', m1, m3, m4⟩ := main
        refine ⟨C', m1, m3, fun Q => ?_⟩
        simp only [zr81_0, zr81_1, zr81_4, zr81_6, zr81_9, zr81_10, zr81_13, zr81_14, zr81_17, zr81_20, zr81_23, zr81_25, zr81_26, zr81_29, zr81_32, zr81_33, zr81_34, zr81_37, zr81_38, zr81_39, zr81_42, zr81_43, zr81_44, zr81_48, zr81_49, zr81_52, zr81_55, zr81_58, zr81_59, zr81_61, zr81_62, zr81_63, zr81_64, zr81_67, zr81_70, zr81_71, zr81_74, zr81_77, zr81_79, zr81_80, zr81_82, zr81_83, zr81_86, zr81_89, zr81_91, zr81_92, zr81_95, zr81_96, zr81_99, zr81_101, zr81_104, zr81_105, zr81_106, zr81_107, zr81_108, zr81_109, zr81_110, zr81_113, zr81_116, zr81_118, zr81_119, zr81_120, zr81_123, zr81_124, zr81_127, zr81_128, zr81_131, zr81_133, zr81_135, zr81_137, zr81_140, zr81_143, zr81_146, zs_q0 N, zh_q0 ca cb c, zq_kill_int, zq_kill_ref, zq_kill_ret, zq_kill_null, zq_kill_long, zq_rf_some, zq_rf_none, true_and, and_true, true_implies, not_true_eq_false, not_false_eq_true, false_implies, Bool.true_eq_false, Bool.false_eq_true, nI_1, zb_i0, zb_i1, zb_i2, Option.toList_some, Option.toList_none, List.cons_append, List.nil_append, true_or, or_true, implies_true, zb_it, zb_if, zb_10, zb_00, zb_n5, zb_n2, zb_m1, zb_m3, zb_m9, or_true, true_or, or_false, false_or, ru, z2, rv, z6, m4, nI_n9 (show v < 2147483648 by omega)]
      · have z6 : (nI (rk u) < nI (rk v)) = False := eq_false (nI_nlt (by omega) (by omega))
        refine ⟨C, qfr_rfl C, ?_, fun Q => ?_⟩
        · rw [← hex, px_skip hnd (m + 1) M u v hu (by omega)]
          exact ho'
        · simp only [zr81_0, zr81_1, zr81_4, zr81_6, zr81_9, zr81_10, zr81_13, zr81_14, zr81_17, zr81_20, zr81_23, zr81_25, zr81_26, zr81_29, zr81_32, zr81_33, zr81_34, zr81_37, zr81_38, zr81_39, zr81_42, zr81_43, zr81_44, zr81_48, zr81_49, zr81_52, zr81_55, zr81_58, zr81_59, zr81_61, zr81_62, zr81_63, zr81_64, zr81_67, zr81_70, zr81_71, zr81_74, zr81_77, zr81_79, zr81_80, zr81_82, zr81_83, zr81_86, zr81_89, zr81_91, zr81_92, zr81_95, zr81_96, zr81_99, zr81_101, zr81_104, zr81_105, zr81_106, zr81_107, zr81_108, zr81_109, zr81_110, zr81_113, zr81_116, zr81_118, zr81_119, zr81_120, zr81_123, zr81_124, zr81_127, zr81_128, zr81_131, zr81_133, zr81_135, zr81_137, zr81_140, zr81_143, zr81_146, zs_q0 N, zh_q0 ca cb c, zq_kill_int, zq_kill_ref, zq_kill_ret, zq_kill_null, zq_kill_long, zq_rf_some, zq_rf_none, true_and, and_true, true_implies, not_true_eq_false, not_false_eq_true, false_implies, Bool.true_eq_false, Bool.false_eq_true, nI_1, zb_i0, zb_i1, zb_i2, Option.toList_some, Option.toList_none, List.cons_append, List.nil_append, true_or, or_true, implies_true, zb_it, zb_if, zb_10, zb_00, zb_n5, zb_n2, zb_m1, zb_m3, zb_m9, or_true, true_or, or_false, false_or, ru, z2, rv, z6, nI_n9 (show v < 2147483648 by omega)]
theorem cnp_sfr : ∀ m M H, sfr M H → cnp (okm W P may) W m H = cnp (okm W P may) W m M := by
  intro m
  induction m with
  | zero => intros; rfl
  | succ m ih =>
    intro M H h
    rw [cnp_s, cnp_s]
    congr 1
    funext w a
    have eok : okm W P may H w = okm W P may M w := by unfold okm; rw [sfr_needs h, sfr_cano h]
    rw [eok, ih _ _ (sfr_go h)]
theorem sfr_tr2 {A B : zq_I} (h1 : sfr M A) (h2 : sfr A B) : sfr M B := ⟨fun a a1 a2 => (h2.1 a a1 a2).trans (h1.1 a a1 a2), fun f hf => (h2.2 f hf).trans (h1.2 f hf)⟩
end Z55
section Z55b
variable {N : Nat} {x : Int32}
theorem p_takes : zq_pair N 80 184 [.ref 0, .int x] [.ref 60, .int x, .retAddr 0, .retAddr 0, .retAddr 0] := by
  intro hi hl ca cb cs W P D h
  have hca := h.court
  have hc := zq_Ct_ok (N := N) (ca := ca) (cb := cb) (cs := cs) h.court
  have hct := h.2.2.2.2.2.1
  obtain ⟨⟨w1, w2, w3, w4, w5, w6, -⟩, -, wa⟩ := id hct
  by_cases hx : ¬ x < 0 ∧ ¬ 6 < x
  · have hin : zm_in x 0 6 = true := by unfold zm_in; rw [decide_eq_true_eq]; exact hx
    by_cases hW0 : W = 0
    · have e0 : (nI W = 0) = True := eq_true (by rw [hW0]; rfl)
      refine ⟨.int (-4), hi, hl, ca, cb, cs, hi, hl, W, P, D, fun Q => ?_, fun Q => ?_, h⟩
      · simp only [zr80_0, zr80_1, zr80_4, zr80_5, zr80_7, zr80_10, zr80_11, zr80_12, zr80_13, zr80_16, zr80_19, zr80_22, zr80_24, zr80_25, zr80_26, zr80_29, zr80_30, zr80_33, zr80_34, zr80_37, zr80_38, zr80_41, zr80_42, zr80_45, zr80_46, zr80_47, zr80_50, zr80_51, zr80_54, zr80_57, zr80_59, zr80_62, zr80_64, zr80_65, zr80_66, zr80_67, zr80_70, zr80_73, zr80_76, zr80_77, zr80_80, zr80_83, zr80_86, zs_x0 N, zh_x0 ca cb cs, hc.1, zq_kill_int, zq_kill_ref, zq_kill_ret, zq_kill_null, zq_kill_long, zq_rf_some, zq_rf_none, true_and, and_true, true_implies, not_true_eq_false, not_false_eq_true, false_implies, Bool.true_eq_false, Bool.false_eq_true, nI_1, zb_i0, zb_i1, zb_i2, Option.toList_some, Option.toList_none, List.cons_append, List.nil_append, true_or, or_true, implies_true, zb_it, zb_if, zb_10, zb_00, zb_n5, zb_n2, zb_m1, zb_m3, zb_m9, or_true, true_or, or_false, false_or, hx, w3, e0]
      · simp only [zr184_0, zr184_1, zr184_2, zr184_4, zr184_7, zr184_10, zr184_11, zr184_12, zr184_13, zr184_16, zr184_19, zr184_21, zr184_22, zr184_24, zr184_25, zr184_26, zr184_28, zr184_29, zr184_30, zr184_33, zr184_34, zr184_37, zr184_38, zr184_40, zr184_43, zr184_44, zr184_47, zr184_48, zr184_51, zr184_54, zr184_55, zr184_58, zr184_59, zr184_61, zr184_63, zr184_66, zr184_67, zr184_68, zr184_69, zr184_72, zr184_73, zr184_76, zr184_79, zr184_80, zr184_83, zr184_84, zr184_85, zr184_88, zr184_91, zr184_92, zr184_94, zr184_97, zr184_99, zr184_102, zr184_103, zr184_104, zr184_105, zr184_108, zr184_111, zs_m0 N, zs_m1 N, zs_m2 N, zh_m0 ca cb cs, zq_kill_int, zq_kill_ref, zq_kill_ret, zq_kill_null, zq_kill_long, zq_rf_some, zq_rf_none, true_and, and_true, true_implies, not_true_eq_false, not_false_eq_true, false_implies, Bool.true_eq_false, Bool.false_eq_true, nI_1, zb_i0, zb_i1, zb_i2, Option.toList_some, Option.toList_none, List.cons_append, List.nil_append, true_or, or_true, implies_true, zb_it, zb_if, zb_10, zb_00, zb_n5, zb_n2, zb_m1, zb_m3, zb_m9, or_true, true_or, or_false, false_or, k_M_in, hin, w4, e0]
    · have e0 : (nI W = 0) = False := eq_false (nI_ne0 (by omega) (by omega))
      obtain ⟨n, hn, rfl⟩ := nI_06 hx
      have d0 := h.2.2.2.2.2.2.1.1
      have h8 := zb_p8 P w2
      obtain ⟨C0, b1, b2, b3, b4, b5, b6, b7⟩ := k_Search_begin (N := N) (d := 56) (cb := cb) (cs := cs) (hl := hl) (n := n) hca w3 w1 hn
      have hcor := cor_start0 h b2 b3 b4
      have hM := Mok_cor hcor
      generalize ht : (fun w => (zm_tr C0 w).toNatClampNeg) = t at hM
      obtain ⟨nd, hne⟩ : ∃ nd : Nat → Nat, ∀ w, w < W → nd w < 2 ^ P ∧ zm_needs C0 w = nI (nd w) := by
        refine ⟨fun w => (zm_needs C0 w).toNatClampNeg, fun w hw => ?_⟩
        obtain ⟨s, hs, e⟩ := hcor.need hw
        show (zm_needs C0 w).toNatClampNeg < 2 ^ P ∧ zm_needs C0 w = nI (zm_needs C0 w).toNatClampNeg
        rw [e, zb_cl (by omega)]
        exact ⟨hs, rfl⟩
      obtain ⟨C2, q1, q3, q4⟩ := k_Search_seekPeople (N := N) (ca := ca) (cb := cb) (hl := hl) (c := ca) hca hn (fun w hw => by have := (hne w hw).1; omega) n 0 (by omega) 52 (by omega) D C0 C0 0 none hcor (fun w hw => (hne w hw).2) (by omega) b5 (by omega) b6
      have q4' : ∀ Q, zq_P 57 81 0 [.ref 54, .int 0, .int 0, .retAddr 0, .retAddr 0, .retAddr 0, .retAddr 0] [] (zq_SG N, C0, hl, zq_HR ca cb ca) Q = _ := q4
      rw [px_tkf w2 (fun w hw => (hne w hw).1) (fun w hw => (hne w hw).2)] at q3
      generalize hq : (fun S => decide (0 < cnp (okm W P (nI S)) W n C0)) = q at q3
      have f2 : ∀ a, a < 54 ∨ 59 < a → C2 a = hi a := fun a ha => by rw [q1.1 a (by omega) (by omega) (by omega), b2 a (by omega)]
      have hlt8 := tkf_spec q
      -- the reference's loop
      have loopM : ∀ C3 : zq_I, (∀ a, 60 ≤ a → C3 a = C0 a) → ∃ (H : zq_I) (v4 : Value), sfr C3 H ∧ ∀ Q, zq_P 58 184 27 [.ref 60, .int (nI n), .int (-9), .int 0, .retAddr 0] [] (zq_SG N, C3, hl, zq_HR ca cb ca) Q = zq_P 58 184 91 [.ref 60, .int (nI n), .int (mmi (tkf q (2 ^ P))), .int (nI (2 ^ P)), v4] [] (zq_SG N, H, hl, zq_HR ca cb ca) Q := by
        intro C3 up
        have m12 : ∀ H, sfr C3 H → H 60 12 = nI P := fun H hs => by rw [hs.2 12 (by omega), up 60 (by omega), b2 60 (by omega)]; exact w6
        obtain ⟨⟨H, v4⟩, hH, loop⟩ := zq_loopE (β := Option Value → zq_G → Prop) (n := 2 ^ P) (I := fun _ (v : zq_I × Value) => sfr C3 v.1) (f := fun Q j (v : zq_I × Value) => zq_P 58 184 27 [.ref 60, .int (nI n), .int (mmi (tkf q j)), .int (nI j), v.2] [] (zq_SG N, v.1, hl, zq_HR ca cb ca) Q) (fun j hj v hv => by
          obtain ⟨H, v4⟩ := v
          replace hv : sfr C3 H := hv
          have h3 : (nI j < nI (2 ^ P)) = True := eq_true ((nI_ltI (by omega) (by omega)).mpr hj)
          have bj := fun Q => k_M_bits (S := zq_SG N) (hi := H) (hl := hl) (hr := zq_HR ca cb ca) (d := 57) (Q := Q) (s := j) (by omega)
          obtain ⟨H', s1, r1, sp⟩ := k_M_setPlans (N := N) (ca := ca) (cb := cb) (cs := ca) (d := 52) (hl := hl) (may := nI j) hn (sfr_Mok hv (Mok_lo up hM))
          have r2 := r1.1
          rw [ex_1] at r2
          dsimp only at r2
          rw [Nat.zero_add, cnp_sfr _ _ _ hv, cnp_lo up] at r2
          rw [show 52 + 5 = 57 from rfl] at sp
          have hle := Nat.le_trans (cnp_le (ok := okm W P (nI j)) (W := W) n C0) (zw_le6 W w1 n hn)
          have hqj : q j = decide (0 < cnp (okm W P (nI j)) W n C0) := by rw [← hq]
          have r3 : (0 < H' 60 39) = (q j = true) := by
            rw [r2, hqj, decide_eq_true_eq, show (0 : Int32) = nI 0 from rfl, zb_lt (by omega) (by omega)]
          have fewer : (∀ Q, zq_P 58 184 27 [.ref 60, .int (nI n), .int (mmi (tkf q j)), .int (nI j), v4] [] (zq_SG N, H, hl, zq_HR ca cb ca) Q = zq_P 58 184 66 [.ref 60, .int (nI n), .int (mmi (tkf q j)), .int (nI j), .int 1] [] (zq_SG N, H, hl, zq_HR ca cb ca) Q) → tkf q (j + 1) = (if q j = true then some j else tkf q j) → ∃ v2 : zq_I × Value, sfr C3 v2.1 ∧ ∀ Q, zq_P 58 184 27 [.ref 60, .int (nI n), .int (mmi (tkf q j)), .int (nI j), v4] [] (zq_SG N, H, hl, zq_HR ca cb ca) Q = zq_P 58 184 27 [.ref 60, .int (nI n), .int (mmi (tkf q (j + 1))), .int (nI (j + 1)), v2.2] [] (zq_SG N, v2.1, hl, zq_HR ca cb ca) Q := by
            intro e1 e2
            refine ⟨(H', .int 1), sfr_tr2 hv s1, fun Q => ?_⟩
            rw [e1, e2]
            simp only [zr184_0, zr184_1, zr184_2, zr184_4, zr184_7, zr184_10, zr184_11, zr184_12, zr184_13, zr184_16, zr184_19, zr184_21, zr184_22, zr184_24, zr184_25, zr184_26, zr184_28, zr184_29, zr184_30, zr184_33, zr184_34, zr184_37, zr184_38, zr184_40, zr184_43, zr184_44, zr184_47, zr184_48, zr184_51, zr184_54, zr184_55, zr184_58, zr184_59, zr184_61, zr184_63, zr184_66, zr184_67, zr184_68, zr184_69, zr184_72, zr184_73, zr184_76, zr184_79, zr184_80, zr184_83, zr184_84, zr184_85, zr184_88, zr184_91, zr184_92, zr184_94, zr184_97, zr184_99, zr184_102, zr184_103, zr184_104, zr184_105, zr184_108, zr184_111, zs_m0 N, zs_m1 N, zs_m2 N, zh_m0 ca cb ca, zq_kill_int, zq_kill_ref, zq_kill_ret, zq_kill_null, zq_kill_long, zq_rf_some, zq_rf_none, true_and, and_true, true_implies, not_true_eq_false, not_false_eq_true, false_implies, Bool.true_eq_false, Bool.false_eq_true, nI_1, zb_i0, zb_i1, zb_i2, Option.toList_some, Option.toList_none, List.cons_append, List.nil_append, true_or, or_true, implies_true, zb_it, zb_if, zb_10, zb_00, zb_n5, zb_n2, zb_m1, zb_m3, zb_m9, or_true, true_or, or_false, false_or, sp, r3]
            by_cases hb : q j = true
            · simp only [hb, if_true, true_implies, not_true_eq_false, false_implies, true_and, and_true]; rfl
            · simp only [hb, Bool.false_eq_true, if_false, false_implies, not_false_eq_true, true_implies, true_and, and_true]
          cases hb : tkf q j with
          | none =>
            rw [hb] at fewer
            refine fewer (fun Q => ?_) (by rw [tkf_s, hb]; rfl)
            have q9 : (mmi none = -9) = True := eq_true rfl
            rw [zr184_27]
            simp only [zr184_0, zr184_1, zr184_2, zr184_4, zr184_7, zr184_10, zr184_11, zr184_12, zr184_13, zr184_16, zr184_19, zr184_21, zr184_22, zr184_24, zr184_25, zr184_26, zr184_28, zr184_29, zr184_30, zr184_33, zr184_34, zr184_37, zr184_38, zr184_40, zr184_43, zr184_44, zr184_47, zr184_48, zr184_51, zr184_54, zr184_55, zr184_58, zr184_59, zr184_61, zr184_63, zr184_67, zr184_68, zr184_69, zr184_72, zr184_73, zr184_76, zr184_79, zr184_80, zr184_83, zr184_84, zr184_85, zr184_88, zr184_91, zr184_92, zr184_94, zr184_97, zr184_99, zr184_102, zr184_103, zr184_104, zr184_105, zr184_108, zr184_111, zs_m0 N, zs_m1 N, zs_m2 N, zh_m0 ca cb ca, zq_kill_int, zq_kill_ref, zq_kill_ret, zq_kill_null, zq_kill_long, zq_rf_some, zq_rf_none, true_and, and_true, true_implies, not_true_eq_false, not_false_eq_true, false_implies, Bool.true_eq_false, Bool.false_eq_true, nI_1, zb_i0, zb_i1, zb_i2, Option.toList_some, Option.toList_none, List.cons_append, List.nil_append, true_or, or_true, implies_true, zb_it, zb_if, zb_10, zb_00, zb_n5, zb_n2, zb_m1, zb_m3, zb_m9, or_true, true_or, or_false, false_or, m12 H hv, zb_ev P w2, h3, q9]
          | some b =>
            have hb8 := ((hlt8 j (by omega)).2 b hb).1
            rw [hb] at fewer
            have q9 : (nI b = -9) = False := nI_n9 (by omega)
            have bb := fun Q => k_M_bits (S := zq_SG N) (hi := H) (hl := hl) (hr := zq_HR ca cb ca) (d := 57) (Q := Q) (s := b) (by omega)
            have pj : pcn j < 2147483648 := by unfold pcn; omega
            have pb : pcn b < 2147483648 := by unfold pcn; omega
            by_cases hlt : pcn j < pcn b
            · have z6 : (nI (pcn j) < nI (pcn b)) = True := eq_true ((nI_ltI (by omega) (by omega)).mpr hlt)
              refine fewer (fun Q => ?_) (by rw [tkf_s, hb]; exact if_pos hlt)
              rw [zr184_27, mmi_w]
              simp only [zr184_0, zr184_1, zr184_2, zr184_4, zr184_7, zr184_10, zr184_11, zr184_12, zr184_13, zr184_16, zr184_19, zr184_21, zr184_22, zr184_24, zr184_25, zr184_26, zr184_28, zr184_29, zr184_30, zr184_33, zr184_34, zr184_37, zr184_38, zr184_40, zr184_43, zr184_44, zr184_47, zr184_48, zr184_51, zr184_54, zr184_55, zr184_58, zr184_59, zr184_61, zr184_63, zr184_67, zr184_68, zr184_69, zr184_72, zr184_73, zr184_76, zr184_79, zr184_80, zr184_83, zr184_84, zr184_85, zr184_88, zr184_91, zr184_92, zr184_94, zr184_97, zr184_99, zr184_102, zr184_103, zr184_104, zr184_105, zr184_108, zr184_111, zs_m0 N, zs_m1 N, zs_m2 N, zh_m0 ca cb ca, zq_kill_int, zq_kill_ref, zq_kill_ret, zq_kill_null, zq_kill_long, zq_rf_some, zq_rf_none, true_and, and_true, true_implies, not_true_eq_false, not_false_eq_true, false_implies, Bool.true_eq_false, Bool.false_eq_true, nI_1, zb_i0, zb_i1, zb_i2, Option.toList_some, Option.toList_none, List.cons_append, List.nil_append, true_or, or_true, implies_true, zb_it, zb_if, zb_10, zb_00, zb_n5, zb_n2, zb_m1, zb_m3, zb_m9, or_true, true_or, or_false, false_or, m12 H hv, zb_ev P w2, h3, q9, bj, bb, z6]
            · have z6 : (nI (pcn j) < nI (pcn b)) = False := eq_false (nI_nlt (by omega) (by omega))
              refine ⟨(H, .int 0), hv, fun Q => ?_⟩
              dsimp only
              rw [tkf_s, hb]
              unfold tkn
              dsimp only
              rw [if_neg hlt, zr184_27, mmi_w]
              simp only [zr184_0, zr184_1, zr184_2, zr184_4, zr184_7, zr184_10, zr184_11, zr184_12, zr184_13, zr184_16, zr184_19, zr184_21, zr184_22, zr184_24, zr184_25, zr184_26, zr184_28, zr184_29, zr184_30, zr184_33, zr184_34, zr184_37, zr184_38, zr184_40, zr184_43, zr184_44, zr184_47, zr184_48, zr184_51, zr184_54, zr184_55, zr184_58, zr184_59, zr184_61, zr184_63, zr184_66, zr184_67, zr184_68, zr184_69, zr184_72, zr184_73, zr184_76, zr184_79, zr184_80, zr184_83, zr184_84, zr184_85, zr184_88, zr184_91, zr184_92, zr184_94, zr184_97, zr184_99, zr184_102, zr184_103, zr184_104, zr184_105, zr184_108, zr184_111, zs_m0 N, zs_m1 N, zs_m2 N, zh_m0 ca cb ca, zq_kill_int, zq_kill_ref, zq_kill_ret, zq_kill_null, zq_kill_long, zq_rf_some, zq_rf_none, true_and, and_true, true_implies, not_true_eq_false, not_false_eq_true, false_implies, Bool.true_eq_false, Bool.false_eq_true, nI_1, zb_i0, zb_i1, zb_i2, Option.toList_some, Option.toList_none, List.cons_append, List.nil_append, true_or, or_true, implies_true, zb_it, zb_if, zb_10, zb_00, zb_n5, zb_n2, zb_m1, zb_m3, zb_m9, or_true, true_or, or_false, false_or, m12 H hv, zb_ev P w2, h3, q9, bj, bb, z6]) (C3, .retAddr 0) ⟨fun _ _ _ => rfl, fun _ _ => rfl⟩
        replace hH : sfr C3 H := hH
        have fP : (nI (2 ^ P) < nI (2 ^ P)) = False := eq_false (nI_nlt (Nat.le_refl _) (by omega))
        refine ⟨H, v4, hH, fun Q => ?_⟩
        have lp : zq_P 58 184 27 [.ref 60, .int (nI n), .int (-9), .int 0, .retAddr 0] [] (zq_SG N, C3, hl, zq_HR ca cb ca) Q = _ := loop Q
        refine Eq.trans lp ?_
        dsimp only
        rw [zr184_27]
        simp only [zr184_0, zr184_1, zr184_2, zr184_4, zr184_7, zr184_10, zr184_11, zr184_12, zr184_13, zr184_16, zr184_19, zr184_21, zr184_22, zr184_24, zr184_25, zr184_26, zr184_28, zr184_29, zr184_30, zr184_33, zr184_34, zr184_37, zr184_38, zr184_40, zr184_43, zr184_44, zr184_47, zr184_48, zr184_51, zr184_54, zr184_55, zr184_58, zr184_59, zr184_61, zr184_63, zr184_66, zr184_67, zr184_68, zr184_69, zr184_72, zr184_73, zr184_76, zr184_79, zr184_80, zr184_83, zr184_84, zr184_85, zr184_88, zr184_92, zr184_94, zr184_97, zr184_99, zr184_102, zr184_103, zr184_104, zr184_105, zr184_108, zr184_111, zs_m0 N, zs_m1 N, zs_m2 N, zh_m0 ca cb ca, zq_kill_int, zq_kill_ref, zq_kill_ret, zq_kill_null, zq_kill_long, zq_rf_some, zq_rf_none, true_and, and_true, true_implies, not_true_eq_false, not_false_eq_true, false_implies, Bool.true_eq_false, Bool.false_eq_true, nI_1, zb_i0, zb_i1, zb_i2, Option.toList_some, Option.toList_none, List.cons_append, List.nil_append, true_or, or_true, implies_true, zb_it, zb_if, zb_10, zb_00, zb_n5, zb_n2, zb_m1, zb_m3, zb_m9, or_true, true_or, or_false, false_or, m12 H hH, zb_ev P w2, fP]
      cases ho : tkf q (2 ^ P) with
      | none =>
        rw [ho] at q3
        have q3' : C2 54 6 = -9 := q3
        obtain ⟨H, v4, hH, lm⟩ := loopM C2 fun a ha => q1.1 a (by omega) (by omega) (by omega)
        rw [ho] at lm
        have c10 : C2 60 10 = nI W := by rw [f2 _ (by omega)]; exact w4
        have q9 : (mmi none = -9) = True := eq_true rfl
        refine ⟨.int (-9), C2, hl, ca, cb, ca, H, hl, W, P, D, fun Q => ?_, fun Q => ?_, ?_⟩
        · simp only [zr80_0, zr80_1, zr80_4, zr80_5, zr80_7, zr80_10, zr80_11, zr80_12, zr80_13, zr80_16, zr80_19, zr80_22, zr80_24, zr80_25, zr80_26, zr80_29, zr80_30, zr80_33, zr80_34, zr80_37, zr80_38, zr80_41, zr80_42, zr80_45, zr80_46, zr80_47, zr80_50, zr80_51, zr80_54, zr80_57, zr80_59, zr80_62, zr80_64, zr80_65, zr80_66, zr80_67, zr80_70, zr80_73, zr80_76, zr80_77, zr80_80, zr80_83, zr80_86, zs_x0 N, zs_q0 N, zh_x0 ca cb cs, zh_x0 ca cb ca, hc.1, zq_kill_int, zq_kill_ref, zq_kill_ret, zq_kill_null, zq_kill_long, zq_rf_some, zq_rf_none, true_and, and_true, true_implies, not_true_eq_false, not_false_eq_true, false_implies, Bool.true_eq_false, Bool.false_eq_true, nI_1, zb_i0, zb_i1, zb_i2, Option.toList_some, Option.toList_none, List.cons_append, List.nil_append, true_or, or_true, implies_true, zb_it, zb_if, zb_10, zb_00, zb_n5, zb_n2, zb_m1, zb_m3, zb_m9, or_true, true_or, or_false, false_or, hx, w3, e0, b1, q4', q3']
        · simp only [zr184_0, zr184_1, zr184_2, zr184_4, zr184_7, zr184_10, zr184_11, zr184_12, zr184_13, zr184_16, zr184_19, zr184_21, zr184_22, zr184_24, zr184_25, zr184_26, zr184_28, zr184_29, zr184_30, zr184_33, zr184_34, zr184_37, zr184_38, zr184_40, zr184_43, zr184_44, zr184_47, zr184_48, zr184_51, zr184_54, zr184_55, zr184_58, zr184_59, zr184_61, zr184_63, zr184_66, zr184_67, zr184_68, zr184_69, zr184_72, zr184_73, zr184_76, zr184_79, zr184_80, zr184_83, zr184_84, zr184_85, zr184_88, zr184_92, zr184_94, zr184_97, zr184_99, zr184_102, zr184_103, zr184_104, zr184_105, zr184_108, zr184_111, zs_m0 N, zs_m1 N, zs_m2 N, zh_m0 ca cb ca, zq_kill_int, zq_kill_ref, zq_kill_ret, zq_kill_null, zq_kill_long, zq_rf_some, zq_rf_none, true_and, and_true, true_implies, not_true_eq_false, not_false_eq_true, false_implies, Bool.true_eq_false, Bool.false_eq_true, nI_1, zb_i0, zb_i1, zb_i2, Option.toList_some, Option.toList_none, List.cons_append, List.nil_append, true_or, or_true, implies_true, zb_it, zb_if, zb_10, zb_00, zb_n5, zb_n2, zb_m1, zb_m3, zb_m9, or_true, true_or, or_false, false_or, k_M_in, hin, c10, e0, lm]
          rw [zr184_91]
          simp only [zr184_0, zr184_1, zr184_2, zr184_4, zr184_7, zr184_10, zr184_11, zr184_12, zr184_13, zr184_16, zr184_19, zr184_21, zr184_22, zr184_24, zr184_25, zr184_26, zr184_28, zr184_29, zr184_30, zr184_33, zr184_34, zr184_37, zr184_38, zr184_40, zr184_43, zr184_44, zr184_47, zr184_48, zr184_51, zr184_54, zr184_55, zr184_58, zr184_59, zr184_61, zr184_63, zr184_66, zr184_67, zr184_68, zr184_69, zr184_72, zr184_73, zr184_76, zr184_79, zr184_80, zr184_83, zr184_84, zr184_85, zr184_88, zr184_91, zr184_92, zr184_94, zr184_97, zr184_99, zr184_102, zr184_103, zr184_104, zr184_105, zr184_108, zr184_111, zq_kill_int, zq_kill_ref, zq_kill_ret, zq_kill_null, zq_kill_long, zq_rf_some, zq_rf_none, true_and, and_true, true_implies, not_true_eq_false, not_false_eq_true, false_implies, Bool.true_eq_false, Bool.false_eq_true, nI_1, zb_i0, zb_i1, zb_i2, Option.toList_some, Option.toList_none, List.cons_append, List.nil_append, true_or, or_true, implies_true, zb_it, zb_if, zb_10, zb_00, zb_n5, zb_n2, zb_m1, zb_m3, zb_m9, or_true, true_or, or_false, false_or, q9]
        · refine h.search (C2 := C2) (fun a ha _ => f2 a ha) (by rw [f2 0 (by omega)]) ?_ (fun a ha => hH.1 a (by omega) (by omega)) (fun a a1 a2 => hH.1 a (by omega) (by omega)) (fun f _ f1 => hH.2 f (by omega)) h.2.2.1.2.1 h.2.2.1.2.2.1
          rw [hH.2 2 (by omega), f2 0 (by omega), f2 60 (by omega)]
          exact h.2.2.1.1
      | some r =>
        rw [ho] at q3
        obtain ⟨z1, z2⟩ := q3
        have o3 : ∀ a, a ≠ 0 → zq_u C2 0 9 (nI r) a = C2 a := fun a a1 => zq_u_ne a1
        obtain ⟨H, v4, hH, lm⟩ := loopM (zq_u C2 0 9 (nI r)) fun a ha => by rw [o3 a (by omega), q1.1 a (by omega) (by omega) (by omega)]
        rw [ho, mmi_w] at lm
        have c10 : zq_u C2 0 9 (nI r) 60 10 = nI W := by rw [o3 _ (by omega), f2 _ (by omega)]; exact w4
        have z2' : zq_u C2 0 9 (nI r) 54 6 = nI r := by rw [o3 _ (by omega)]; exact z2
        have q9 : (nI r = -9) = False := nI_n9 (by omega)
        have bc := fun Q => k_bitCount (S := zq_SG N) (hi := zq_u C2 0 9 (nI r)) (hl := hl) (hr := zq_HR ca cb ca) (d := 57) (Q := Q) (s := r) (by omega)
        have bm := fun Q => k_M_bits (S := zq_SG N) (hi := H) (hl := hl) (hr := zq_HR ca cb ca) (d := 57) (Q := Q) (s := r) (by omega)
        refine ⟨.int (nI (pcn r)), zq_u C2 0 9 (nI r), hl, ca, cb, ca, zq_u H 60 2 (nI r), hl, W, P, D, fun Q => ?_, fun Q => ?_, ?_⟩
        · simp only [zr80_0, zr80_1, zr80_4, zr80_5, zr80_7, zr80_10, zr80_11, zr80_12, zr80_13, zr80_16, zr80_19, zr80_22, zr80_24, zr80_25, zr80_26, zr80_29, zr80_30, zr80_33, zr80_34, zr80_37, zr80_38, zr80_41, zr80_42, zr80_45, zr80_46, zr80_47, zr80_50, zr80_51, zr80_54, zr80_57, zr80_59, zr80_62, zr80_64, zr80_65, zr80_66, zr80_67, zr80_70, zr80_73, zr80_76, zr80_77, zr80_80, zr80_83, zr80_86, zs_x0 N, zs_q0 N, zh_x0 ca cb cs, zh_x0 ca cb ca, hc.1, zq_kill_int, zq_kill_ref, zq_kill_ret, zq_kill_null, zq_kill_long, zq_rf_some, zq_rf_none, true_and, and_true, true_implies, not_true_eq_false, not_false_eq_true, false_implies, Bool.true_eq_false, Bool.false_eq_true, nI_1, zb_i0, zb_i1, zb_i2, Option.toList_some, Option.toList_none, List.cons_append, List.nil_append, true_or, or_true, implies_true, zb_it, zb_if, zb_10, zb_00, zb_n5, zb_n2, zb_m1, zb_m3, zb_m9, or_true, true_or, or_false, false_or, hx, w3, e0, b1, q4', z2, q9, z2', bc]
        · simp only [zr184_0, zr184_1, zr184_2, zr184_4, zr184_7, zr184_10, zr184_11, zr184_12, zr184_13, zr184_16, zr184_19, zr184_21, zr184_22, zr184_24, zr184_25, zr184_26, zr184_28, zr184_29, zr184_30, zr184_33, zr184_34, zr184_37, zr184_38, zr184_40, zr184_43, zr184_44, zr184_47, zr184_48, zr184_51, zr184_54, zr184_55, zr184_58, zr184_59, zr184_61, zr184_63, zr184_66, zr184_67, zr184_68, zr184_69, zr184_72, zr184_73, zr184_76, zr184_79, zr184_80, zr184_83, zr184_84, zr184_85, zr184_88, zr184_92, zr184_94, zr184_97, zr184_99, zr184_102, zr184_103, zr184_104, zr184_105, zr184_108, zr184_111, zs_m0 N, zs_m1 N, zs_m2 N, zh_m0 ca cb ca, zq_kill_int, zq_kill_ref, zq_kill_ret, zq_kill_null, zq_kill_long, zq_rf_some, zq_rf_none, true_and, and_true, true_implies, not_true_eq_false, not_false_eq_true, false_implies, Bool.true_eq_false, Bool.false_eq_true, nI_1, zb_i0, zb_i1, zb_i2, Option.toList_some, Option.toList_none, List.cons_append, List.nil_append, true_or, or_true, implies_true, zb_it, zb_if, zb_10, zb_00, zb_n5, zb_n2, zb_m1, zb_m3, zb_m9, or_true, true_or, or_false, false_or, k_M_in, hin, c10, e0, lm]
          rw [zr184_91]
          simp only [zr184_0, zr184_1, zr184_2, zr184_4, zr184_7, zr184_10, zr184_11, zr184_12, zr184_13, zr184_16, zr184_19, zr184_21, zr184_22, zr184_24, zr184_25, zr184_26, zr184_28, zr184_29, zr184_30, zr184_33, zr184_34, zr184_37, zr184_38, zr184_40, zr184_43, zr184_44, zr184_47, zr184_48, zr184_51, zr184_54, zr184_55, zr184_58, zr184_59, zr184_61, zr184_63, zr184_66, zr184_67, zr184_68, zr184_69, zr184_72, zr184_73, zr184_76, zr184_79, zr184_80, zr184_83, zr184_84, zr184_85, zr184_88, zr184_91, zr184_92, zr184_94, zr184_97, zr184_99, zr184_102, zr184_103, zr184_104, zr184_105, zr184_108, zr184_111, zr118_0, zr118_1, zr118_2, zr118_5, zr118_6, zs_m0 N, zs_m1 N, zs_m2 N, zh_m0 ca cb ca, zq_kill_int, zq_kill_ref, zq_kill_ret, zq_kill_null, zq_kill_long, zq_rf_some, zq_rf_none, true_and, and_true, true_implies, not_true_eq_false, not_false_eq_true, false_implies, Bool.true_eq_false, Bool.false_eq_true, nI_1, zb_i0, zb_i1, zb_i2, Option.toList_some, Option.toList_none, List.cons_append, List.nil_append, true_or, or_true, implies_true, zb_it, zb_if, zb_10, zb_00, zb_n5, zb_n2, zb_m1, zb_m3, zb_m9, or_true, true_or, or_false, false_or, q9, bm]
        · refine h.search (C2 := zq_u C2 0 9 (nI r)) (fun a ha a0 => by rw [o3 a a0, f2 a ha]) (by rw [zq_u_kn (by omega), f2 0 (by omega)]) (by rw [zq_u_eq, zq_u_eq]) (fun a ha => by rw [zq_u_ne (by omega)]; exact hH.1 a (by omega) (by omega)) (fun a a1 a2 => by rw [zq_u_ne (by omega)]; exact hH.1 a (by omega) (by omega)) (fun f f0 f1 => by rw [zq_u_kn f0]; exact hH.2 f (by omega)) h.2.2.1.2.1 h.2.2.1.2.2.1
  · refine ⟨.int (-1), hi, hl, ca, cb, cs, hi, hl, W, P, D, fun Q => ?_, fun Q => ?_, h⟩
    · simp only [zr80_0, zr80_1, zr80_4, zr80_5, zr80_7, zr80_10, zr80_11, zr80_12, zr80_13, zr80_16, zr80_19, zr80_22, zr80_24, zr80_25, zr80_26, zr80_29, zr80_30, zr80_33, zr80_34, zr80_37, zr80_38, zr80_41, zr80_42, zr80_45, zr80_46, zr80_47, zr80_50, zr80_51, zr80_54, zr80_57, zr80_59, zr80_62, zr80_64, zr80_65, zr80_66, zr80_67, zr80_70, zr80_73, zr80_76, zr80_77, zr80_80, zr80_83, zr80_86, zs_x0 N, zh_x0 ca cb cs, zq_kill_int, zq_kill_ref, zq_kill_ret, zq_kill_null, zq_kill_long, zq_rf_some, zq_rf_none, true_and, and_true, true_implies, not_true_eq_false, not_false_eq_true, false_implies, Bool.true_eq_false, Bool.false_eq_true, nI_1, zb_i0, zb_i1, zb_i2, Option.toList_some, Option.toList_none, List.cons_append, List.nil_append, true_or, or_true, implies_true, zb_it, zb_if, zb_10, zb_00, zb_n5, zb_n2, zb_m1, zb_m3, zb_m9, or_true, true_or, or_false, false_or]
      by_cases q1 : x < 0
      · simp [q1]
      · by_cases q2 : 6 < x
        · simp [q1, q2]
        · exact absurd ⟨q1, q2⟩ hx
    · simp only [zr184_0, zr184_1, zr184_2, zr184_4, zr184_7, zr184_10, zr184_11, zr184_12, zr184_13, zr184_16, zr184_19, zr184_21, zr184_22, zr184_24, zr184_25, zr184_26, zr184_28, zr184_29, zr184_30, zr184_33, zr184_34, zr184_37, zr184_38, zr184_40, zr184_43, zr184_44, zr184_47, zr184_48, zr184_51, zr184_54, zr184_55, zr184_58, zr184_59, zr184_61, zr184_63, zr184_66, zr184_67, zr184_68, zr184_69, zr184_72, zr184_73, zr184_76, zr184_79, zr184_80, zr184_83, zr184_84, zr184_85, zr184_88, zr184_91, zr184_92, zr184_94, zr184_97, zr184_99, zr184_102, zr184_103, zr184_104, zr184_105, zr184_108, zr184_111, zs_m0 N, zs_m1 N, zs_m2 N, zh_m0 ca cb cs, zq_kill_int, zq_kill_ref, zq_kill_ret, zq_kill_null, zq_kill_long, zq_rf_some, zq_rf_none, true_and, and_true, true_implies, not_true_eq_false, not_false_eq_true, false_implies, Bool.true_eq_false, Bool.false_eq_true, nI_1, zb_i0, zb_i1, zb_i2, Option.toList_some, Option.toList_none, List.cons_append, List.nil_append, true_or, or_true, implies_true, zb_it, zb_if, zb_10, zb_00, zb_n5, zb_n2, zb_m1, zb_m3, zb_m9, or_true, true_or, or_false, false_or, k_M_in, zm_in, hx, decide_false]
end Z55b
