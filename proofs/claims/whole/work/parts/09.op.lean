/-! Every instruction that goes on behind itself -/
theorem zq_pi_inv {v : Value} {L st L2 st2 : List Value} {g g2 : zq_G} (h : zq_pi v L st g = some (L2, st2, g2)) : ∃ x, v = .int x ∧ L2 = L ∧ st2 = .int x :: st ∧ g2 = g := by
  unfold zq_pi at h
  split at h
  · cases h; exact ⟨_, rfl, rfl, rfl, rfl⟩
  · cases h
theorem zq_pl_inv {v : Value} {L st L2 st2 : List Value} {g g2 : zq_G} (h : zq_pl v L st g = some (L2, st2, g2)) : ∃ x, v = .long x ∧ L2 = L ∧ st2 = .long x :: st ∧ g2 = g := by
  unfold zq_pl at h
  split at h
  · cases h; exact ⟨_, rfl, rfl, rfl, rfl⟩
  · cases h
theorem zq_pa_inv {v : Value} {L st L2 st2 : List Value} {g g2 : zq_G} (h : zq_pa v L st g = some (L2, st2, g2)) : ((∃ x, v = .ref x) ∨ v = .null) ∧ L2 = L ∧ st2 = v :: st ∧ g2 = g := by
  unfold zq_pa at h
  split at h
  · cases h; exact ⟨Or.inl ⟨_, rfl⟩, rfl, rfl, rfl⟩
  · cases h; exact ⟨Or.inr rfl, rfl, rfl, rfl⟩
  · cases h
theorem zq_si_inv {k : Nat} {L st L2 st2 : List Value} {g g2 : zq_G} (h : zq_si k L st g = some (L2, st2, g2)) : ∃ x, st = .int x :: st2 ∧ k < L.length ∧ L2 = zq_s1 L k (.int x) ∧ g2 = g := by
  unfold zq_si at h
  split at h
  · split at h
    · rename_i hk
      cases h; exact ⟨_, rfl, hk, rfl, rfl⟩
    · cases h
  · cases h
theorem zq_sl_inv {k : Nat} {L st L2 st2 : List Value} {g g2 : zq_G} (h : zq_sl k L st g = some (L2, st2, g2)) : ∃ x, st = .long x :: st2 ∧ k + 1 < L.length ∧ L2 = zq_s2 L k (.long x) ∧ g2 = g := by
  unfold zq_sl at h
  split at h
  · split at h
    · rename_i hk
      cases h; exact ⟨_, rfl, hk, rfl, rfl⟩
    · cases h
  · cases h
theorem zq_sa_inv {k : Nat} {L st L2 st2 : List Value} {g g2 : zq_G} (h : zq_sa k L st g = some (L2, st2, g2)) : ∃ v, ((∃ x, v = .ref x) ∨ v = .null) ∧ st = v :: st2 ∧ k < L.length ∧ L2 = zq_s1 L k v ∧ g2 = g := by
  unfold zq_sa at h
  split at h
  · split at h
    · rename_i hk
      cases h; exact ⟨_, Or.inl ⟨_, rfl⟩, rfl, hk, rfl, rfl⟩
    · cases h
  · split at h
    · rename_i hk
      cases h; exact ⟨_, Or.inr rfl, rfl, hk, rfl, rfl⟩
    · cases h
  · cases h
theorem zq_ii_inv {f : Int32 → Int32 → Int32} {L st L2 st2 : List Value} {g g2 : zq_G} (h : zq_ii f L st g = some (L2, st2, g2)) : ∃ x y r, st = .int y :: .int x :: r ∧ L2 = L ∧ st2 = .int (f x y) :: r ∧ g2 = g := by
  unfold zq_ii at h
  split at h
  · cases h; exact ⟨_, _, _, rfl, rfl, rfl, rfl⟩
  · cases h
theorem zq_id_inv {f : Int32 → Int32 → Int32} {L st L2 st2 : List Value} {g g2 : zq_G} (h : zq_id f L st g = some (L2, st2, g2)) : ∃ x y r, ¬ y = 0 ∧ st = .int y :: .int x :: r ∧ L2 = L ∧ st2 = .int (f x y) :: r ∧ g2 = g := by
  unfold zq_id at h
  split at h
  · split at h
    · cases h
    · rename_i hy
      cases h; exact ⟨_, _, _, hy, rfl, rfl, rfl, rfl⟩
  · cases h
theorem zq_jj_inv {f : Int64 → Int64 → Int64} {L st L2 st2 : List Value} {g g2 : zq_G} (h : zq_jj f L st g = some (L2, st2, g2)) : ∃ x y r, st = .long y :: .long x :: r ∧ L2 = L ∧ st2 = .long (f x y) :: r ∧ g2 = g := by
  unfold zq_jj at h
  split at h
  · cases h; exact ⟨_, _, _, rfl, rfl, rfl, rfl⟩
  · cases h
theorem zq_jd_inv {f : Int64 → Int64 → Int64} {L st L2 st2 : List Value} {g g2 : zq_G} (h : zq_jd f L st g = some (L2, st2, g2)) : ∃ x y r, ¬ y = 0 ∧ st = .long y :: .long x :: r ∧ L2 = L ∧ st2 = .long (f x y) :: r ∧ g2 = g := by
  unfold zq_jd at h
  split at h
  · split at h
    · cases h
    · rename_i hy
      cases h; exact ⟨_, _, _, hy, rfl, rfl, rfl, rfl⟩
  · cases h
theorem zq_lok1 {i : Instr} {len : Nat} (h : zq_lok i len = true) (n : Nat) (hi : ∀ k, zq_lok i k = (k == n)) : len = n := by
  rw [hi] at h
  simpa using h
theorem zq_av_sum (X : zq_X) (st : List Value) : ((st.map (zq_av X)).map fun v => v.category).sum = (st.map fun v => v.category).sum := zq_v_sum _ _ st
theorem zq_newo_mono {y k : Nat} {L st L2 st2 : List Value} {g g2 : zq_G} (h : zq_newo y k L st g = some (L2, st2, g2)) : g.1.1 ≤ g2.1.1 ∧ g.1.2.1 ≤ g2.1.2.1 := by
  unfold zq_newo at h
  split at h
  · split at h
    · cases h; exact ⟨Nat.le_succ _, Nat.le_add_right _ _⟩
    · cases h
  · cases h
theorem zq_newa_mono {L st L2 st2 : List Value} {g g2 : zq_G} (h : zq_newa L st g = some (L2, st2, g2)) : g.1.1 ≤ g2.1.1 ∧ g.1.2.1 ≤ g2.1.2.1 := by
  unfold zq_newa at h
  split at h
  · split at h
    · cases h; exact ⟨Nat.le_succ _, Nat.le_add_right _ _⟩
    · cases h
  · cases h
theorem zq_newq_mono {y k : Nat} {L st L2 st2 : List Value} {g g2 : zq_G} (h : zq_newq y k L st g = some (L2, st2, g2)) : g.1.1 ≤ g2.1.1 ∧ g.1.2.1 ≤ g2.1.2.1 := by
  unfold zq_newq at h
  split at h
  · split at h
    · split at h
      · cases h; exact ⟨Nat.le_succ _, Nat.le_add_right _ _⟩
      · cases h
    · cases h
  · cases h
section ZP
variable {p : Program} {l : Launch} {e : Env} {R : Room} {s : State} {m : MethodId} {args : Array Value} {below : List Frame} {meth : Method} {c : Code} {H : Heap} {locs : List Loc} {Q : State → Prop}
variable {X : zq_X} {y pc : Nat} {g0 g g2 : zq_G} {ls : Array Slot} {L L2 st st2 : List Value}
set_option maxHeartbeats 2000000 in
theorem zq_op_ok (F : zq_Fr X p s m args meth c y) (hs : zq_H X g0 s.heap) {i : Instr} {len : Nat} (hd : decode (zq_by y) pc = .ok (i, len)) (hlen : zq_lok i len = true) (ho : zq_op y i L st g = some (L2, st2, g2)) (hl : zq_loc (zq_B X) (zq_b X) L ls (zq_ml y)) (hH : zq_H X g H) (hS : va_S (zq_Ad X) s.heap H locs) (hg : g0.1.1 ≤ g.1.1) (hk0 : g0.1.2.1 ≤ g.1.2.1)
    (hR : 1 ≤ R.frames ∧ 100 ≤ R.locals ∧ g2.1.1 - g0.1.1 ≤ R.cells ∧ g2.1.2.1 - g0.1.2.1 ≤ R.slots)
    (kk : ∀ (ls2 : Array Slot) (H2 : Heap) (locs2 : List Loc), zq_loc (zq_B X) (zq_b X) L2 ls2 (zq_ml y) → zq_H X g2 H2 → va_S (zq_Ad X) s.heap H2 locs2 → g0.1.1 ≤ g2.1.1 → g0.1.2.1 ≤ g2.1.2.1 → W p l e R s m args below meth c H2 locs2 (g2.1.1 - g0.1.1) (g2.1.2.1 - g0.1.2.1) Q (F0 m (pc + len) ls2 (st2.map (zq_av X)))) :
    W p l e R s m args below meth c H locs (g.1.1 - g0.1.1) (g.1.2.1 - g0.1.2.1) Q (F0 m pc ls (st.map (zq_av X))) := by
  have F0' := F
  obtain ⟨hx, hb, hml, hown, hin, hts, hK, -⟩ := F0'
  have hnL : L.length = zq_ml y := hl.1
  unfold zq_op at ho
  split at ho
  · cases zq_lok1 hlen 1 (fun _ => rfl); cases ho
    exact lv_iconst hx hb hd rfl (kk ls H locs hl hH hS hg hk0)
  · cases zq_lok1 hlen 2 (fun _ => rfl); cases ho
    exact lv_bipush hx hb hd rfl (kk ls H locs hl hH hS hg hk0)
  · cases zq_lok1 hlen 3 (fun _ => rfl); cases ho
    exact lv_sipush hx hb hd rfl (kk ls H locs hl hH hS hg hk0)
  · cases zq_lok1 hlen 1 (fun _ => rfl); cases ho
    exact lv_lconst hx hb hd rfl (kk ls H locs hl hH hS hg hk0)
  · cases zq_lok1 hlen 1 (fun _ => rfl); cases ho
    exact lv_null hx hb hd (kk ls H locs hl hH hS hg hk0)
  · cases zq_lok1 hlen 2 (fun _ => rfl)
    obtain ⟨q, hq, ho⟩ := Option.map_eq_some_iff.mp ho
    cases ho
    obtain ⟨q1, q2, q3⟩ := zq_kq_ok hq
    rw [q1, q2] at q3
    exact lv_ldc hx hb hown (hts _ (zq_tb_at q3 rfl)) hd (kk ls H locs hl hH hS hg hk0)
  · cases zq_lok1 hlen 3 (fun _ => rfl)
    obtain ⟨q, hq, ho⟩ := Option.map_eq_some_iff.mp ho
    cases ho
    obtain ⟨q1, q2, q3⟩ := zq_kq_ok hq
    rw [q1, q2] at q3
    exact lv_ldcw hx hb hown (hts _ (zq_tb_at q3 rfl)) hd (kk ls H locs hl hH hS hg hk0)
  · cases zq_lok1 hlen 3 (fun _ => rfl)
    obtain ⟨q, hq, ho⟩ := Option.map_eq_some_iff.mp ho
    cases ho
    obtain ⟨q1, q2, q3⟩ := zq_jq_ok hq
    rw [q1, q2] at q3
    exact lv_ldc2 hx hb hown (hts _ (zq_tb_at q3 rfl)) hd (kk ls H locs hl hH hS hg hk0)
  · cases zq_lok1 hlen 2 (fun _ => rfl)
    obtain ⟨x, hv, rfl, rfl, rfl⟩ := zq_pi_inv ho
    exact lv_iload hx hb hd (hl.get hv rfl) (kk ls H locs hl hH hS hg hk0)
  · cases zq_lok1 hlen 1 (fun _ => rfl)
    obtain ⟨x, hv, rfl, rfl, rfl⟩ := zq_pi_inv ho
    exact lv_iload_n hx hb hd rfl (hl.get hv rfl) (kk ls H locs hl hH hS hg hk0)
  · cases zq_lok1 hlen 2 (fun _ => rfl)
    obtain ⟨x, hv, rfl, rfl, rfl⟩ := zq_pl_inv ho
    exact lv_lload hx hb hd (hl.get hv rfl) (kk ls H locs hl hH hS hg hk0)
  · cases zq_lok1 hlen 1 (fun _ => rfl)
    obtain ⟨x, hv, rfl, rfl, rfl⟩ := zq_pl_inv ho
    exact lv_lload_n hx hb hd rfl (hl.get hv rfl) (kk ls H locs hl hH hS hg hk0)
  · cases zq_lok1 hlen 2 (fun _ => rfl)
    obtain ⟨hv, rfl, rfl, rfl⟩ := zq_pa_inv ho
    rcases hv with ⟨x, hv⟩ | hv
    · rw [hv] at kk
      exact lv_aload hx hb hd (hl.get hv rfl) (kk ls H locs hl hH hS hg hk0)
    · rw [hv] at kk
      exact lv_aloadN hx hb hd (hl.get hv rfl) (kk ls H locs hl hH hS hg hk0)
  · cases zq_lok1 hlen 1 (fun _ => rfl)
    obtain ⟨hv, rfl, rfl, rfl⟩ := zq_pa_inv ho
    rcases hv with ⟨x, hv⟩ | hv
    · rw [hv] at kk
      exact lv_aload_n hx hb hd rfl (hl.get hv rfl) (kk ls H locs hl hH hS hg hk0)
    · rw [hv] at kk
      exact lv_aload_nN hx hb hd rfl (hl.get hv rfl) (kk ls H locs hl hH hS hg hk0)
  · cases zq_lok1 hlen 2 (fun _ => rfl)
    obtain ⟨x, rfl, hk, rfl, rfl⟩ := zq_si_inv ho
    rw [hnL] at hk
    exact lv_istore hx hb hd hl.2 hk rfl (fun ls2 h2 => kk ls2 H locs (hl.set1 hk h2) hH hS hg hk0)
  · cases zq_lok1 hlen 1 (fun _ => rfl)
    obtain ⟨x, rfl, hk, rfl, rfl⟩ := zq_si_inv ho
    rw [hnL] at hk
    exact lv_istore_n hx hb hd rfl hl.2 hk rfl (fun ls2 h2 => kk ls2 H locs (hl.set1 hk h2) hH hS hg hk0)
  · cases zq_lok1 hlen 2 (fun _ => rfl)
    obtain ⟨x, rfl, hk, rfl, rfl⟩ := zq_sl_inv ho
    rw [hnL] at hk
    exact lv_lstore hx hb hd hl.2 hk rfl (fun ls2 h2 => kk ls2 H locs (hl.set2 hk h2) hH hS hg hk0)
  · cases zq_lok1 hlen 1 (fun _ => rfl)
    obtain ⟨x, rfl, hk, rfl, rfl⟩ := zq_sl_inv ho
    rw [hnL] at hk
    exact lv_lstore_n hx hb hd rfl hl.2 hk rfl (fun ls2 h2 => kk ls2 H locs (hl.set2 hk h2) hH hS hg hk0)
  · cases zq_lok1 hlen 2 (fun _ => rfl)
    obtain ⟨v, hv, rfl, hk, rfl, rfl⟩ := zq_sa_inv ho
    rw [hnL] at hk
    rcases hv with ⟨x, rfl⟩ | rfl
    · exact lv_astore hx hb hd hl.2 hk rfl (fun ls2 h2 => kk ls2 H locs (hl.set1 hk h2) hH hS hg hk0)
    · exact lv_astoreN hx hb hd hl.2 hk rfl (fun ls2 h2 => kk ls2 H locs (hl.set1 hk h2) hH hS hg hk0)
  · cases zq_lok1 hlen 1 (fun _ => rfl)
    obtain ⟨v, hv, rfl, hk, rfl, rfl⟩ := zq_sa_inv ho
    rw [hnL] at hk
    rcases hv with ⟨x, rfl⟩ | rfl
    · exact lv_astore_n hx hb hd rfl hl.2 hk rfl (fun ls2 h2 => kk ls2 H locs (hl.set1 hk h2) hH hS hg hk0)
    · exact lv_astore_nN hx hb hd rfl hl.2 hk rfl (fun ls2 h2 => kk ls2 H locs (hl.set1 hk h2) hH hS hg hk0)
  · rename_i k n
    cases zq_lok1 hlen 3 (fun _ => rfl)
    split at ho
    · rename_i w x hv
      split at ho
      · rename_i hk
        cases ho
        rw [hnL] at hk
        have h1 := hl.get hv rfl
        have hm : (k, Value.int x) ∈ zq_en (zq_B X) (zq_b X) 0 L := by
          refine (zq_en_mem _ _ _ L 0).mpr ⟨k, .int x, ?_, rfl, by simp [zq_v]⟩
          unfold zq_ld at hv
          rw [List.getD_eq_getElem?_getD] at hv
          cases hc : L[k]? with
          | none => rw [hc] at hv; cases hv
          | some w => rw [hc] at hv; exact congrArg some hv
        obtain ⟨j, hj⟩ := List.getElem?_of_mem hm
        exact lv_iinc hx hb hd hl.2 (k := j) hj rfl hk rfl (fun ls2 h2 => kk ls2 H locs (hl.set1 hk h2) hH hS hg hk0)
      · cases ho
    · cases ho
  · cases zq_lok1 hlen 1 (fun _ => rfl)
    obtain ⟨x, y, r, rfl, rfl, rfl, rfl⟩ := zq_ii_inv ho
    exact lv_iadd hx hb hd (kk ls H locs hl hH hS hg hk0)
  · cases zq_lok1 hlen 1 (fun _ => rfl)
    obtain ⟨x, y, r, rfl, rfl, rfl, rfl⟩ := zq_ii_inv ho
    exact lv_isub hx hb hd (kk ls H locs hl hH hS hg hk0)
  · cases zq_lok1 hlen 1 (fun _ => rfl)
    obtain ⟨x, y, r, rfl, rfl, rfl, rfl⟩ := zq_ii_inv ho
    exact lv_imul hx hb hd (kk ls H locs hl hH hS hg hk0)
  · cases zq_lok1 hlen 1 (fun _ => rfl)
    obtain ⟨x, y, r, rfl, rfl, rfl, rfl⟩ := zq_ii_inv ho
    exact lv_iand hx hb hd (kk ls H locs hl hH hS hg hk0)
  · cases zq_lok1 hlen 1 (fun _ => rfl)
    obtain ⟨x, y, r, rfl, rfl, rfl, rfl⟩ := zq_ii_inv ho
    exact lv_ior hx hb hd (kk ls H locs hl hH hS hg hk0)
  · cases zq_lok1 hlen 1 (fun _ => rfl)
    obtain ⟨x, y, r, rfl, rfl, rfl, rfl⟩ := zq_ii_inv ho
    exact lv_ixor hx hb hd (kk ls H locs hl hH hS hg hk0)
  · cases zq_lok1 hlen 1 (fun _ => rfl)
    obtain ⟨x, y, r, rfl, rfl, rfl, rfl⟩ := zq_ii_inv ho
    exact lv_ishl hx hb hd (kk ls H locs hl hH hS hg hk0)
  · cases zq_lok1 hlen 1 (fun _ => rfl)
    obtain ⟨x, y, r, rfl, rfl, rfl, rfl⟩ := zq_ii_inv ho
    exact lv_ishr hx hb hd (kk ls H locs hl hH hS hg hk0)
  · cases zq_lok1 hlen 1 (fun _ => rfl)
    obtain ⟨x, y, r, rfl, rfl, rfl, rfl⟩ := zq_ii_inv ho
    exact lv_iushr hx hb hd rfl (kk ls H locs hl hH hS hg hk0)
  · cases zq_lok1 hlen 1 (fun _ => rfl)
    obtain ⟨x, y, r, hy, rfl, rfl, rfl, rfl⟩ := zq_id_inv ho
    exact lv_idiv hx hb hd hy (kk ls H locs hl hH hS hg hk0)
  · cases zq_lok1 hlen 1 (fun _ => rfl)
    obtain ⟨x, y, r, hy, rfl, rfl, rfl, rfl⟩ := zq_id_inv ho
    exact lv_irem hx hb hd hy (kk ls H locs hl hH hS hg hk0)
  · cases zq_lok1 hlen 1 (fun _ => rfl)
    obtain ⟨x, y, r, rfl, rfl, rfl, rfl⟩ := zq_jj_inv ho
    exact lv_ladd hx hb hd (kk ls H locs hl hH hS hg hk0)
  · cases zq_lok1 hlen 1 (fun _ => rfl)
    obtain ⟨x, y, r, rfl, rfl, rfl, rfl⟩ := zq_jj_inv ho
    exact lv_lmul hx hb hd (kk ls H locs hl hH hS hg hk0)
  · cases zq_lok1 hlen 1 (fun _ => rfl)
    obtain ⟨x, y, r, hy, rfl, rfl, rfl, rfl⟩ := zq_jd_inv ho
    exact lv_ldiv hx hb hd hy (kk ls H locs hl hH hS hg hk0)
  · cases zq_lok1 hlen 1 (fun _ => rfl)
    obtain ⟨x, y, r, hy, rfl, rfl, rfl, rfl⟩ := zq_jd_inv ho
    exact lv_lrem hx hb hd hy (kk ls H locs hl hH hS hg hk0)
  · cases zq_lok1 hlen 1 (fun _ => rfl)
    split at ho
    · cases ho
      exact W.lcmp hx hb hd (kk ls H locs hl hH hS hg hk0)
    · cases ho
  · cases zq_lok1 hlen 1 (fun _ => rfl)
    split at ho
    · cases ho
      exact lv_i2l hx hb hd rfl (kk ls H locs hl hH hS hg hk0)
    · cases ho
  · cases zq_lok1 hlen 1 (fun _ => rfl)
    split at ho
    · cases ho
      exact lv_l2i hx hb hd rfl (kk ls H locs hl hH hS hg hk0)
    · cases ho
  · cases zq_lok1 hlen 1 (fun _ => rfl)
    split at ho
    · cases ho
      exact lv_i2b hx hb hd rfl (kk ls H locs hl hH hS hg hk0)
    · cases ho
  · cases zq_lok1 hlen 1 (fun _ => rfl)
    split at ho
    · split at ho
      · rename_i hv
        cases ho
        exact lv_dup hx hb hd ((zq_v_cat _ _ _).trans hv) (kk ls H locs hl hH hS hg hk0)
      · cases ho
    · cases ho
  · cases zq_lok1 hlen 1 (fun _ => rfl)
    split at ho
    · split at ho
      · rename_i hv
        cases ho
        exact lv_dup2_11 hx hb hd ((zq_v_cat _ _ _).trans hv.1) ((zq_v_cat _ _ _).trans hv.2) (kk ls H locs hl hH hS hg hk0)
      · cases ho
    · cases ho
  · cases zq_lok1 hlen 1 (fun _ => rfl)
    split at ho
    · split at ho
      · rename_i hv
        cases ho
        exact lv_pop hx hb hd ((zq_v_cat _ _ _).trans hv) (kk ls H locs hl hH hS hg hk0)
      · cases ho
    · cases ho
  · cases zq_lok1 hlen 3 (fun _ => rfl)
    exact zq_getf_ok F hH ho hd fun e1 e2 => by subst e1; subst e2; exact kk ls H locs hl hH hS hg hk0
  · cases zq_lok1 hlen 3 (fun _ => rfl)
    exact zq_putf_ok F hs hg hH hS ho hd fun H2 locs2 e1 e2 h1 h2 => by subst e2; have h := kk ls H2 locs2 hl h1 h2 (by rw [e1]; exact hg) (by rw [e1]; exact hk0); rw [e1] at h; exact h
  · cases zq_lok1 hlen 3 (fun _ => rfl)
    exact zq_newo_ok F hH hS ho hd (by have h1 := zq_newo_mono ho; have h2 := hR.2.2; omega) fun H2 N e1 e2 e3 h1 h2 => by subst e3; have h := kk ls H2 locs hl h1 h2 (by omega) (by omega); rw [e1, e2, Nat.sub_add_comm hg, Nat.sub_add_comm hk0] at h; exact h
  · cases zq_lok1 hlen 2 (fun _ => rfl)
    exact zq_newa_ok F hH hS ho hd (by have h1 := zq_newa_mono ho; have h2 := hR.2.2; omega) fun H2 N e1 e2 e3 h1 h2 => by subst e3; have h := kk ls H2 locs hl h1 h2 (by omega) (by omega); rw [e1, e2, Nat.sub_add_comm hg, Nat.sub_add_comm hk0] at h; exact h
  · cases zq_lok1 hlen 3 (fun _ => rfl)
    exact zq_newq_ok F hH hS ho hd (by have h1 := zq_newq_mono ho; have h2 := hR.2.2; omega) fun H2 N e1 e2 e3 h1 h2 => by subst e3; have h := kk ls H2 locs hl h1 h2 (by omega) (by omega); rw [e1, e2, Nat.sub_add_comm hg, Nat.sub_add_comm hk0] at h; exact h
  · cases zq_lok1 hlen 1 (fun _ => rfl)
    exact zq_iald_ok F hs hH hS ho hd fun e1 e2 => by subst e1; subst e2; exact kk ls H locs hl hH hS hg hk0
  · cases zq_lok1 hlen 1 (fun _ => rfl)
    exact zq_iast_ok F hs hg hH hS ho hd fun H2 locs2 e1 e2 h1 h2 => by subst e2; have h := kk ls H2 locs2 hl h1 h2 (by rw [e1]; exact hg) (by rw [e1]; exact hk0); rw [e1] at h; exact h
  · cases zq_lok1 hlen 1 (fun _ => rfl)
    exact zq_aald_ok F hH ho hd fun e1 e2 => by subst e1; subst e2; exact kk ls H locs hl hH hS hg hk0
  · cases zq_lok1 hlen 1 (fun _ => rfl)
    exact zq_aast_ok F hs hg hH hS ho hd fun H2 locs2 e1 e2 h1 h2 => by subst e2; have h := kk ls H2 locs2 hl h1 h2 (by rw [e1]; exact hg) (by rw [e1]; exact hk0); rw [e1] at h; exact h
  · cases zq_lok1 hlen 1 (fun _ => rfl)
    exact zq_alen_ok F hs hH hS ho hd fun e1 e2 => by subst e1; subst e2; exact kk ls H locs hl hH hS hg hk0
  · cases zq_lok1 hlen 3 (fun _ => rfl)
    unfold zq_sta at ho
    split at ho
    · rename_i k q hq
      obtain ⟨q1, q2, q3, q4, q5⟩ := zq_mq_ok hq
      rw [q1, q2] at q5
      split at ho
      · rename_i hm
        rw [if_neg (by rw [q4 (by omega)]; decide), if_neg (by omega), if_neg (by omega), if_pos hm] at q5
        exact zq_copy_ok F hs hg hH hS hl.2.1 ⟨hR.1, hR.2.1⟩ q5 ho hd fun H2 locs2 e1 e2 h1 h2 => by subst e2; have h := kk ls H2 locs2 hl h1 h2 (by rw [e1]; exact hg) (by rw [e1]; exact hk0); rw [e1] at h; exact h
      · rename_i hm
        rw [if_neg (by rw [q4 (by omega)]; decide), if_neg (by omega), if_neg (by omega), if_neg (by omega), if_pos hm] at q5
        unfold zq_mm at ho
        split at ho
        · split at ho
          · rename_i h8
            cases ho
            refine va_mmax hx hb (hml.trans hl.2.1.symm) hown (hts _ (zq_tb_at q5 rfl)) (hts _ (zq_tb_at zq_w_max.2 rfl)) (hts _ (zq_tb_at zq_w_math rfl)) (hts _ (zq_tb_at zq_w_max.1 rfl)) hR.1 ?_ hR.2.2.1 hR.2.2.2 hd (kk ls H locs hl hH hS hg hk0)
            have h9 := zq_av_sum X ‹List Value›
            omega
          · cases ho
        · cases ho
      · rename_i hm
        rw [if_neg (by rw [q4 (by omega)]; decide), if_neg (by omega), if_neg (by omega), if_neg (by omega), if_neg (by omega)] at q5
        unfold zq_mm at ho
        split at ho
        · split at ho
          · rename_i h8
            cases ho
            refine va_mmin hx hb (hml.trans hl.2.1.symm) hown (hts _ (zq_tb_at q5 rfl)) (hts _ (zq_tb_at zq_w_min.2 rfl)) (hts _ (zq_tb_at zq_w_math rfl)) (hts _ (zq_tb_at zq_w_min.1 rfl)) hR.1 ?_ hR.2.2.1 hR.2.2.2 hd (kk ls H locs hl hH hS hg hk0)
            have h9 := zq_av_sum X ‹List Value›
            omega
          · cases ho
        · cases ho
      · cases ho
    · cases ho
  · cases zq_lok1 hlen 3 (fun _ => rfl)
    unfold zq_spe at ho
    split at ho
    · rename_i k q hq
      obtain ⟨q1, q2, q3, q4, q5⟩ := zq_mq_ok hq
      rw [q1, q2] at q5
      split at ho
      · rename_i hm
        rw [if_neg (by rw [q4 (by omega)]; decide), if_neg (by omega), if_pos hm] at q5
        split at ho
        · split at ho
          · rename_i h8
            cases ho
            refine W.objInit hx hb hown (hts _ (zq_tb_at q5 rfl)) (hts _ (zq_tb_at zq_w_obi rfl)) (hts _ (zq_tb_at zq_w_obj rfl)) rfl (hl.2.1.trans hml.symm) rfl hd hR.1 ?_ (kk ls H locs hl hH hS hg hk0)
            have h9 := zq_av_sum X st2
            show 2 * 0 + _ + 12 ≤ _
            omega
          · cases ho
        · cases ho
      · cases ho
    · cases ho
  · cases ho
end ZP
