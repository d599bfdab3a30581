/-! What the links of the tables give, and how a cell of the small heap changes -/
theorem zq_cl_at : ∀ c, c < 6 → zq_cl[c]? = some (zq_cn c, zq_T c, zq_N c) := by
  intro c hc
  match c, hc with
  | 0, _ => rfl
  | 1, _ => rfl
  | 2, _ => rfl
  | 3, _ => rfl
  | 4, _ => rfl
  | 5, _ => rfl
theorem zq_fq_ok {o k : Nat} {q : Nat × Nat × Nat × Nat × Nat × Nat} (h : zq_fq o k = some q) : q.1 = o ∧ q.2.1 = k ∧ q.2.2.1 < 6 ∧ q.2.2.2.1 < zq_N q.2.2.1 ∧ lw_tbl[q.2.2.2.2.2]? = some (if q.2.2.2.2.1 = 1 then .fieldLinkNest (zq_cn q.1) q.2.1 (zq_T q.2.2.1 q.2.2.2.1).1 (zq_T q.2.2.1 q.2.2.2.1).2.1 (zq_T q.2.2.1 q.2.2.2.1).2.2.1 "EveningFalls" else .fieldLink (zq_cn q.1) q.2.1 (zq_T q.2.2.1 q.2.2.2.1).1 (zq_T q.2.2.1 q.2.2.2.1).2.1 (zq_T q.2.2.1 q.2.2.2.1).2.2.1) := by
  have h1 := List.find?_some h
  have h3 := List.all_eq_true.mp zq_fl_ok q (List.mem_of_find?_eq_some h)
  unfold zq_flok at h3
  simp only [Bool.and_eq_true, decide_eq_true_eq, beq_iff_eq] at h1 h3
  exact ⟨h1.1, h1.2, h3.1.1, h3.1.2, h3.2⟩
theorem zq_mq_ok {o k : Nat} {q : Nat × Nat × Nat × Nat × Nat × Nat} (h : zq_mq o k = some q) : q.1 = o ∧ q.2.1 = k ∧ (q.2.2.1 = 0 → (q.2.2.2.1 ≠ 0 ∧ q.2.2.2.1 < 208)) ∧ (q.2.2.1 ≠ 0 → q.2.2.2.2.1 = 0) ∧ lw_tbl[q.2.2.2.2.2]? = some (if q.2.2.2.2.1 = 1 then .methodLinkNest (zq_cn q.1) q.2.1 (zq_nm q.2.2.2.1) "EveningFalls" else .methodLink (zq_cn q.1) q.2.1 (if q.2.2.1 = 0 then zq_nm q.2.2.2.1 else if q.2.2.1 = 1 then objectInit else if q.2.2.1 = 2 then arraycopyName else if q.2.2.1 = 3 then Lib.Math.max.name else Lib.Math.min.name)) := by
  have h1 := List.find?_some h
  have h3 := List.all_eq_true.mp zq_mk_ok q (List.mem_of_find?_eq_some h)
  unfold zq_mkok at h3
  simp only [Bool.and_eq_true, decide_eq_true_eq, beq_iff_eq] at h1 h3
  exact ⟨h1.1, h1.2, h3.1.1, h3.1.2, h3.2⟩
theorem zq_lq_ok {o k : Nat} {q : Nat × Nat × Nat × Nat} (h : zq_lq o k = some q) : q.1 = o ∧ q.2.1 = k ∧ q.2.2.1 < 6 ∧ lw_tbl[q.2.2.2]? = some (.classLink (zq_cn q.1) q.2.1 (zq_cn q.2.2.1)) := by
  have h1 := List.find?_some h
  have h3 := List.all_eq_true.mp zq_ll_ok q (List.mem_of_find?_eq_some h)
  simp only [Bool.and_eq_true, decide_eq_true_eq, beq_iff_eq] at h1 h3
  exact ⟨h1.1, h1.2, h3.1, h3.2⟩
theorem zq_kq_ok {o k : Nat} {q : Nat × Nat × Int32 × Nat} (h : zq_kq o k = some q) : q.1 = o ∧ q.2.1 = k ∧ lw_tbl[q.2.2.2]? = some (.constant (zq_cn q.1) q.2.1 q.2.2.1) := by
  have h1 := List.find?_some h
  have h3 := List.all_eq_true.mp zq_ck_ok q (List.mem_of_find?_eq_some h)
  simp only [Bool.and_eq_true, decide_eq_true_eq, beq_iff_eq] at h1 h3
  exact ⟨h1.1, h1.2, h3⟩
theorem zq_jq_ok {o k : Nat} {q : Nat × Nat × Int64 × Nat} (h : zq_jq o k = some q) : q.1 = o ∧ q.2.1 = k ∧ lw_tbl[q.2.2.2]? = some (.constantLong (zq_cn q.1) q.2.1 q.2.2.1) := by
  have h1 := List.find?_some h
  have h3 := List.all_eq_true.mp zq_cj_ok q (List.mem_of_find?_eq_some h)
  simp only [Bool.and_eq_true, decide_eq_true_eq, beq_iff_eq] at h1 h3
  exact ⟨h1.1, h1.2, h3⟩
theorem zq_map_set {α : Type} {n k : Nat} {f f2 : Nat → α} {v : α} (hk : f2 k = v) (ho : ∀ j, j ≠ k → f2 j = f j) : ((List.range n).map f).set k v = (List.range n).map f2 := by
  apply List.ext_getElem?
  intro j
  by_cases hj : j < n
  · rw [List.getElem?_map, List.getElem?_range hj]
    by_cases e : j = k
    · subst e
      rw [List.getElem?_set_self (by simp; exact hj)]
      simp [hk]
    · rw [List.getElem?_set_ne (Ne.symm e), List.getElem?_map, List.getElem?_range hj]
      simp [ho j e]
  · rw [List.getElem?_eq_none (by simp; omega), List.getElem?_eq_none (by simp; omega)]
theorem zq_E_congr {cI cR : ClassId} {B b : Nat} {g g2 : zq_G} {x : Nat} (h0 : g2.1.2.2 x = g.1.2.2 x) (h1 : g2.2.1 x = g.2.1 x) (h2 : g2.2.2.1 x = g.2.2.1 x) (h3 : g2.2.2.2 x = g.2.2.2 x) : zq_E cI cR B b g2 x = zq_E cI cR B b g x := by
  unfold zq_E zq_gv
  rw [h0, h1, h2, h3]
theorem zq_u_ne {α : Type} {h : Nat → Nat → α} {a k x : Nat} {v : α} (hx : x ≠ a) : zq_u h a k v x = h x := by
  funext j
  unfold zq_u
  rw [if_neg (fun q => hx q.1)]
theorem zq_u_eq {α : Type} {h : Nat → Nat → α} {a k : Nat} {v : α} : zq_u h a k v a k = v := by unfold zq_u; rw [if_pos ⟨rfl, rfl⟩]
theorem zq_u_kn {α : Type} {h : Nat → Nat → α} {a k j : Nat} {v : α} (hj : j ≠ k) : zq_u h a k v a j = h a j := by unfold zq_u; rw [if_neg (fun q => hj q.2)]
theorem zq_w_ne {α : Type} {h : Nat → Nat → α} {a x : Nat} {f : Nat → α} (hx : x ≠ a) : zq_w h a f x = h x := by unfold zq_w; rw [if_neg hx]
theorem zq_w_eq {α : Type} {h : Nat → Nat → α} {a : Nat} {f : Nat → α} : zq_w h a f a = f := by unfold zq_w; rw [if_pos rfl]
/-- a field is written: what the world's list is then -/
theorem zq_pv_ok {c k a : Nat} {v : Value} {g g2 : zq_G} (h : zq_pv c k a v g = some g2) : g2.1 = g.1 ∧ (∀ x, x ≠ a → g2.2.1 x = g.2.1 x ∧ g2.2.2.1 x = g.2.2.1 x ∧ g2.2.2.2 x = g.2.2.2 x) ∧ zq_gv c k a g2 = v ∧ (∀ j, j ≠ k → zq_gv c j a g2 = zq_gv c j a g) ∧ ((zq_ft c k = 0 ∧ ∃ x, v = .int x) ∨ (zq_ft c k = 1 ∧ ∃ x, v = .long x) ∨ (zq_ft c k = 2 ∧ ∃ x, v = .ref x)) := by
  unfold zq_pv at h
  split at h
  · rename_i x hf
    cases h
    refine ⟨rfl, fun z hz => ⟨zq_u_ne hz, rfl, rfl⟩, ?_, fun j hj => ?_, Or.inl ⟨hf, x, rfl⟩⟩
    · simp only [zq_gv, hf, zq_u_eq]
    · simp only [zq_gv, zq_u_kn hj]
  · rename_i x hf
    cases h
    refine ⟨rfl, fun z hz => ⟨rfl, zq_u_ne hz, rfl⟩, ?_, fun j hj => ?_, Or.inr (Or.inl ⟨hf, x, rfl⟩)⟩
    · simp only [zq_gv, hf, zq_u_eq]
    · simp only [zq_gv, zq_u_kn hj]
  · rename_i x hf
    cases h
    refine ⟨rfl, fun z hz => ⟨rfl, rfl, zq_u_ne hz⟩, ?_, fun j hj => ?_, Or.inr (Or.inr ⟨hf, x, rfl⟩)⟩
    · simp only [zq_gv, hf, zq_u_eq, va_rf]
    · simp only [zq_gv, zq_u_kn hj]
  · cases h
theorem zq_fits {c k : Nat} (hc : c < 6) (hk : k < zq_N c) {v : Value} (B b : Nat) (h : (zq_ft c k = 0 ∧ ∃ x, v = .int x) ∨ (zq_ft c k = 1 ∧ ∃ x, v = .long x) ∨ (zq_ft c k = 2 ∧ ∃ x, v = .ref x)) : narrow (zq_ty c k) (zq_v B b v) = zq_v B b v ∧ fits (zq_ty c k) (zq_v B b v) = true := by
  rcases zq_ft_ty c hc k hk with ⟨h1, h2⟩ | ⟨h1, h2⟩ | ⟨h1, h2⟩
  · rcases h with ⟨-, x, rfl⟩ | ⟨h3, -⟩ | ⟨h3, -⟩
    · rw [h2]; exact ⟨rfl, rfl⟩
    · rw [h1] at h3; cases h3
    · rw [h1] at h3; cases h3
  · rcases h with ⟨h3, -⟩ | ⟨-, x, rfl⟩ | ⟨h3, -⟩
    · rw [h1] at h3; cases h3
    · rw [h2]; exact ⟨rfl, rfl⟩
    · rw [h1] at h3; cases h3
  · rcases h with ⟨h3, -⟩ | ⟨h3, -⟩ | ⟨-, x, rfl⟩
    · rw [h1] at h3; cases h3
    · rw [h1] at h3; cases h3
    · cases hty : zq_ty c k <;> rw [hty] at h2 <;> first | (exact ⟨rfl, rfl⟩) | (cases h2)
theorem zq_mi_all {y : Nat} (h : y < 208) (h0 : y ≠ 0) : lw_tbl[(zq_i y).2.2.2.1]? = some (.code (zq_nm y) (zq_by y) (zq_ml y) (zq_rt y)) ∧ lw_tbl[(zq_i y).2.2.2.2.1]? = some (.initialized (zq_nm y).cls) ∧ (zq_nm y).cls = zq_cn (zq_i y).1 ∧ (parseMethodDescriptor (zq_nm y).desc).map (fun d => d.parameters.length) = some (zq_i y).2.1 ∧ lw_tbl[(zq_i y).2.2.2.2.2.1]? = some (if (zq_i y).2.2.1 = 1 then .static (zq_nm y) else .instanceMethod (zq_nm y)) ∧ ((zq_i y).2.2.1 = 0 → lw_tbl[(zq_i y).2.2.2.2.2.2]? = some (.selects (zq_nm y).cls (zq_nm y) (zq_nm y))) ∧ ((zq_i y).2.2.1 = 0 → (zq_i y).1 < 6) ∧ ((zq_i y).2.2.1 = 2 ↔ (zq_nm y).name = "<init>") ∧ Jvm.plainName (zq_nm y).cls = true ∧ (zq_nm y).cls ≠ "java/lang/invoke/MethodHandle" ∧ (zq_nm y).cls ≠ "java/lang/invoke/VarHandle" ∧ zq_ml y ≤ 40 := by
  have h3 := zq_mi_ok y h h0
  unfold zq_miok at h3
  simp only [Bool.and_eq_true, decide_eq_true_eq] at h3
  obtain ⟨⟨⟨⟨⟨⟨⟨⟨⟨⟨⟨h1, h2⟩, h4⟩, h5⟩, h6⟩, h7⟩, h8⟩, h9⟩, h10⟩, h11⟩, h12⟩, h13⟩ := h3
  refine ⟨?_, h2, h4, h5, h6, h7, h8, h9, h10, h11, h12, h13⟩
  have e := zq_wd_is h1
  have e2 : zq_m y = zq_wd (lw_tbl[(zq_i y).2.2.2.1]?) := by unfold zq_m; rw [if_neg h0]
  rw [← e2] at e
  exact e
