/-! What makes cells -/
theorem zq_K_int {X : zq_X} {U : State} (h : zq_K X U) : U.vm.findClass ("[" ++ FieldType.int.toString) = some (zq_cI X) := (h.2.1.2 0 (zq_cI X, .int) rfl).2
theorem zq_K_ref {X : zq_X} {U : State} (h : zq_K X U) : U.vm.findClass ("[" ++ zq_strip.toString) = some (zq_cR X) := by
  obtain ⟨kA, comp, -, -, -, h4⟩ := (h.2.1.2 1 (zq_cR X, zq_strip) rfl).2
  exact h4
theorem zq_grow {X : zq_X} {g : zq_G} {H H1 : Heap} {sh : Nat × Nat} {n : Nat} (hH : zq_H X g H) (hn : g.1.1 < 1000) (z1 : H1.size = H.size + 1) (o1 : ∀ q : Nat, q < H.size → H1[q]? = H[q]?) (he : va_at (zq_D X) zq_cl (H.size, zq_E (zq_cI X) (zq_cR X) (zq_B X) (zq_b X) (zq_nc g sh n) g.1.1) H1) : zq_H X (zq_nc g sh n) H1 := by
  obtain ⟨a1, a2, a3, a4, a5, a6⟩ := hH
  refine ⟨hn, ?_, fun j hj => ?_, by rw [z1, a4]; rfl, ?_, fun q hq => ?_⟩
  · show (if 1000 = g.1.1 then sh else g.1.2.2 1000) = _
    rw [if_neg (by omega)]
    exact a2
  · show zq_w g.2.1 g.1.1 (fun _ => 0) 1000 j = _
    rw [zq_w_ne (by omega)]
    exact a3 j hj
  · have hpush : zq_W0 X g ++ [(zq_B X + g.1.1, zq_E (zq_cI X) (zq_cR X) (zq_B X) (zq_b X) (zq_nc g sh n) g.1.1)] = zq_W0 X (zq_nc g sh n) := by
      refine zq_ws_push rfl (fun x hx => zq_E_congr ?_ (zq_w_ne (by omega)) (zq_w_ne (by omega)) (zq_w_ne (by omega))) rfl
      show (if x = g.1.1 then sh else g.1.2.2 x) = _
      rw [if_neg (by omega)]
    rw [← hpush]
    refine va_P.app (va_P.kept a5 (fun k x hx => o1 x.1 ((a5 k x hx).lt))) (fun k x hx => ?_)
    have hz : k < 1 := (List.getElem?_eq_some_iff.mp hx).1
    rw [show k = 0 by omega] at hx
    cases hx
    rw [← a4]
    exact he
  · rw [o1 q (by omega), a6 q hq]
section ZN
variable {p : Program} {l : Launch} {e : Env} {R : Room} {s : State} {m : MethodId} {args : Array Value} {below : List Frame} {meth : Method} {c : Code} {H : Heap} {locs : List Loc} {cells slots : Nat} {Q : State → Prop}
variable {X : zq_X} {y pc : Nat} {g0 g g2 : zq_G} {ls : Array Slot} {L L2 st st2 : List Value}
theorem zq_newS {H1 : Heap} (hS : va_S (zq_Ad X) s.heap H locs) (z1 : H1.size = H.size + 1) (o1 : ∀ q : Nat, q < H.size → H1[q]? = H[q]?) : va_S (zq_Ad X) s.heap H1 locs :=
  ⟨Nat.le_trans hS.1 (by omega), fun x h1 h2 => (o1 x (Nat.lt_of_lt_of_le h1 hS.1)).trans (hS.2.1 x h1 h2), hS.2.2⟩
theorem zq_ad_new (hn : g.1.1 < 1000) (hH : zq_H X g H) : (.ref H.size : Value) = zq_av X (.ref g.1.1) := by
  show (.ref H.size : Value) = .ref (zq_a (zq_B X) (zq_b X) g.1.1)
  rw [hH.2.2.2.1]
  unfold zq_a
  rw [if_neg (by omega)]
theorem zq_newo_ok (F : zq_Fr X p s m args meth c y) (hH : zq_H X g H) (hS : va_S (zq_Ad X) s.heap H locs) {k : Nat} (ho : zq_newo y k L st g = some (L2, st2, g2)) (hd : decode (zq_by y) pc = .ok (.new k, 3)) (hR : cells + (g2.1.1 - g.1.1) ≤ R.cells ∧ slots + (g2.1.2.1 - g.1.2.1) ≤ R.slots)
    (kk : ∀ (H2 : Heap) (N : Nat), g2.1.1 = g.1.1 + 1 → g2.1.2.1 = g.1.2.1 + N → L2 = L → zq_H X g2 H2 → va_S (zq_Ad X) s.heap H2 locs → W p l e R s m args below meth c H2 locs (cells + 1) (slots + N) Q (F0 m (pc + 3) ls (st2.map (zq_av X)))) : W p l e R s m args below meth c H locs cells slots Q (F0 m pc ls (st.map (zq_av X))) := by
  obtain ⟨hx, hb, hml, hown, hin, hts, hK, -⟩ := F
  unfold zq_newo at ho
  split at ho
  · rename_i q hq
    obtain ⟨q1, q2, q3, q4⟩ := zq_lq_ok hq
    split at ho
    · rename_i hn
      cases ho
      have hip := zq_ip_ok _ q3
      rw [q1, q2] at q4
      have hKn := hK.2.1.1 q.2.2.1 _ (zq_cl_at _ q3)
      have r1 : cells + 1 ≤ R.cells := by have h := hR.1; simp only [zq_nc] at h; omega
      have r2 : slots + zq_N q.2.2.1 ≤ R.slots := by have h := hR.2; simp only [zq_nc] at h; omega
      refine W.newcK hx hb hown (hts _ (zq_tb_at q4 rfl)) (hts _ (zq_tb_at hip.2.1 rfl)) (hts _ (zq_tb_at hip.2.2 rfl)) rfl hd r1 r2 hKn.2.1 rfl fun H1 kC hkC e1 z1 o1 => ?_
      rw [zq_ad_new hn hH]
      refine kk H1 _ rfl rfl rfl (zq_grow hH hn z1 o1 ?_) (zq_newS hS z1 o1)
      have hsh : ((zq_nc g (q.2.2.1 + 2, 0) (zq_N q.2.2.1)).1.2.2 g.1.1).1 = q.2.2.1 + 2 := by
        show (if g.1.1 = g.1.1 then (q.2.2.1 + 2, 0) else g.1.2.2 g.1.1).1 = _
        rw [if_pos rfl]
      rw [zq_E_2 hsh]
      refine ⟨_, zq_cl_at _ q3, (u_born (zq_ty q.2.2.1) hts (zq_tb_in _ q3) hKn hkC e1 (zq_ty_ok _ q3)).to fun j hj => ?_⟩
      show defaultValue (zq_ty q.2.2.1 j) = vp_V _ j
      unfold vp_V
      rw [List.getD_eq_getElem?_getD, List.getElem?_map, List.getElem?_range hj]
      show defaultValue (zq_ty q.2.2.1 j) = zq_v _ _ (zq_gv q.2.2.1 j g.1.1 (zq_nc g (q.2.2.1 + 2, 0) (zq_N q.2.2.1)))
      rcases zq_ft_ty _ q3 j hj with ⟨h1, h2⟩ | ⟨h1, h2⟩ | ⟨h1, h2⟩
      · simp only [zq_gv, h1, h2, zq_nc, zq_w_eq]; rfl
      · simp only [zq_gv, h1, h2, zq_nc, zq_w_eq]; rfl
      · simp only [zq_gv, h1, zq_nc, zq_w_eq]
        cases hty : zq_ty q.2.2.1 j <;> rw [hty] at h2 <;> first | rfl | (cases h2)
    · cases ho
  · cases ho
theorem zq_newa_ok (F : zq_Fr X p s m args meth c y) (hH : zq_H X g H) (hS : va_S (zq_Ad X) s.heap H locs) (ho : zq_newa L st g = some (L2, st2, g2)) (hd : decode (zq_by y) pc = .ok (.newarray .int, 2)) (hR : cells + (g2.1.1 - g.1.1) ≤ R.cells ∧ slots + (g2.1.2.1 - g.1.2.1) ≤ R.slots)
    (kk : ∀ (H2 : Heap) (N : Nat), g2.1.1 = g.1.1 + 1 → g2.1.2.1 = g.1.2.1 + N → L2 = L → zq_H X g2 H2 → va_S (zq_Ad X) s.heap H2 locs → W p l e R s m args below meth c H2 locs (cells + 1) (slots + N) Q (F0 m (pc + 2) ls (st2.map (zq_av X)))) : W p l e R s m args below meth c H locs cells slots Q (F0 m pc ls (st.map (zq_av X))) := by
  obtain ⟨hx, hb, hml, hown, hin, hts, hK, -⟩ := F
  unfold zq_newa at ho
  split at ho
  · rename_i n r
    split at ho
    · rename_i hc
      cases ho
      obtain ⟨c1, c2, c3⟩ := hc
      have r1 : cells + 1 ≤ R.cells := by have h := hR.1; simp only [zq_nc] at h; omega
      have r2 : slots + n.toNatClampNeg ≤ R.slots := by have h := hR.2; simp only [zq_nc] at h; omega
      refine va_newaK (N := n.toNatClampNeg) hx hb (hts _ (zq_tb_at zq_w_int rfl)) rfl hd rfl c2 rfl (by show n.toNatClampNeg * 4 ≤ 536870912; omega) r1 r2 rfl fun H1 cA e1 z1 o1 hAr hNm => ?_
      have hcA : cA = zq_cI X := Option.some.inj (hNm.symm.trans (zq_K_int hK))
      subst hcA
      rw [zq_ad_new c1 hH]
      refine kk H1 _ rfl rfl rfl (zq_grow hH c1 z1 o1 ?_) (zq_newS hS z1 o1)
      have hsh : (zq_nc g (0, n.toNatClampNeg) n.toNatClampNeg).1.2.2 g.1.1 = (0, n.toNatClampNeg) := by
        show (if g.1.1 = g.1.1 then (0, n.toNatClampNeg) else g.1.2.2 g.1.1) = _
        rw [if_pos rfl]
      rw [zq_E_0 (by rw [hsh]), hsh]
      show H1[H.size]? = some (vp_cell _ _)
      rw [e1]
      show _ = some (arrV _ _ (fun j => .int (zq_w g.2.1 g.1.1 (fun _ => 0) g.1.1 j)))
      rw [zq_w_eq]
      rfl
    · cases ho
  · cases ho
theorem zq_newq_ok (F : zq_Fr X p s m args meth c y) (hH : zq_H X g H) (hS : va_S (zq_Ad X) s.heap H locs) {k : Nat} (ho : zq_newq y k L st g = some (L2, st2, g2)) (hd : decode (zq_by y) pc = .ok (.anewarray k, 3)) (hR : cells + (g2.1.1 - g.1.1) ≤ R.cells ∧ slots + (g2.1.2.1 - g.1.2.1) ≤ R.slots)
    (kk : ∀ (H2 : Heap) (N : Nat), g2.1.1 = g.1.1 + 1 → g2.1.2.1 = g.1.2.1 + N → L2 = L → zq_H X g2 H2 → va_S (zq_Ad X) s.heap H2 locs → W p l e R s m args below meth c H2 locs (cells + 1) (slots + N) Q (F0 m (pc + 3) ls (st2.map (zq_av X)))) : W p l e R s m args below meth c H locs cells slots Q (F0 m pc ls (st.map (zq_av X))) := by
  obtain ⟨hx, hb, hml, hown, hin, hts, hK, -⟩ := F
  unfold zq_newq at ho
  split at ho
  · rename_i q hq
    obtain ⟨q1, q2, q3, q4⟩ := zq_lq_ok hq
    split at ho
    · rename_i n r
      split at ho
      · rename_i hc
        cases ho
        obtain ⟨c0, c1, c2, c3⟩ := hc
        rw [q1, q2, c0] at q4
        have r1 : cells + 1 ≤ R.cells := by have h := hR.1; simp only [zq_nc] at h; omega
        have r2 : slots + n.toNatClampNeg ≤ R.slots := by have h := hR.2; simp only [zq_nc] at h; omega
        refine W.anew (C := "EveningFalls$Strip") hx hb hown (hts _ (zq_tb_at q4 rfl)) (hts _ (zq_tb_at zq_w_over rfl)) rfl hd rfl c2 (by omega) r1 r2 fun cA kA comp f1 f2 f3 f4 => ?_
        generalize hH1 : H.push ({ cls := cA, slots := Array.replicate n.toNatClampNeg .null, vm := .none } : Cell) = H1
        have z1 : H1.size = H.size + 1 := by rw [← hH1, Array.size_push]
        have e1 : H1[H.size]? = some (arrV cA n.toNatClampNeg (fun _ => .null)) := by rw [← hH1, Array.getElem?_push_size, ← arrV_new]
        have o1 : ∀ q : Nat, q < H.size → H1[q]? = H[q]? := fun q hq => by rw [← hH1, Array.getElem?_push, if_neg (Nat.ne_of_lt hq)]
        have hcA : cA = zq_cR X := Option.some.inj (f1.symm.trans (zq_K_ref hK))
        subst hcA
        rw [zq_ad_new c1 hH]
        refine kk H1 _ rfl rfl rfl (zq_grow hH c1 z1 o1 ?_) (zq_newS hS z1 o1)
        have hsh : (zq_nc g (1, n.toNatClampNeg) n.toNatClampNeg).1.2.2 g.1.1 = (1, n.toNatClampNeg) := by
          show (if g.1.1 = g.1.1 then (1, n.toNatClampNeg) else g.1.2.2 g.1.1) = _
          rw [if_pos rfl]
        rw [zq_E_1 (by rw [hsh]), hsh]
        show H1[H.size]? = some (vp_cell _ _)
        rw [e1]
        show _ = some (arrV _ _ (fun j => va_rf ((zq_w g.2.2.2 g.1.1 (fun _ => none) g.1.1 j).map _)))
        rw [zq_w_eq]
        rfl
      · cases ho
    · cases ho
  · cases ho
end ZN
