/-! A small machine without the machine: what a method of the claim does to a heap that is three functions (ints, longs, references) over numbered cells with shapes. Cell 1000 is the script. -/
abbrev zq_I : Type := Nat → Nat → Int32
abbrev zq_J : Type := Nat → Nat → Int64
abbrev zq_O : Type := Nat → Nat → Option Nat
/-- how many cells, how many slots in them, shapes: (0, n) ints, (1, n) strips, (c + 2, _) an object of class c -/
abbrev zq_S : Type := Nat × Nat × (Nat → Nat × Nat)
abbrev zq_G : Type := zq_S × zq_I × zq_J × zq_O
def zq_u {α : Type} (h : Nat → Nat → α) (a k : Nat) (v : α) : Nat → Nat → α := fun a' k' => if a' = a ∧ k' = k then v else h a' k'
def zq_w {α : Type} (h : Nat → Nat → α) (a : Nat) (f : Nat → α) : Nat → Nat → α := fun a' => if a' = a then f else h a'
def zq_lok (i : Instr) (len : Nat) : Bool := match i with
  | .tableswitch _ _ _ _ => true
  | .bipush _ | .ldc _ | .iload _ | .lload _ | .aload _ | .istore _ | .lstore _ | .astore _ | .newarray _ => len == 2
  | .sipush _ | .ldc_w _ | .ldc2_w _ | .iinc _ _ | .getfield _ | .putfield _ | .new _ | .anewarray _ | .invokestatic _ | .invokespecial _ | .invokevirtual _ | .goto _ | .ifCond _ _ | .if_icmp _ _ | .ifnull _ | .ifnonnull _ => len == 3
  | _ => len == 1
def zq_cd (y pc : Nat) : Option (Instr × Nat) := match decode (zq_by y) pc with
  | .ok q => if zq_lok q.1 q.2 = true then some q else none
  | _ => none
theorem zq_cd_ok {y pc : Nat} {i : Instr} {len : Nat} (h : zq_cd y pc = some (i, len)) : decode (zq_by y) pc = .ok (i, len) ∧ zq_lok i len = true := by
  unfold zq_cd at h
  split at h
  · rename_i q hq
    split at h
    · rename_i hl
      cases h
      exact ⟨hq, hl⟩
    · cases h
  · cases h
def zq_own (y : Nat) : Nat := (zq_i y).1
def zq_fq (o k : Nat) : Option (Nat × Nat × Nat × Nat × Nat × Nat) := zq_fl.find? (fun q => q.1 == o && q.2.1 == k)
def zq_mq (o k : Nat) : Option (Nat × Nat × Nat × Nat × Nat × Nat) := zq_mk.find? (fun q => q.1 == o && q.2.1 == k)
def zq_lq (o k : Nat) : Option (Nat × Nat × Nat × Nat) := zq_ll.find? (fun q => q.1 == o && q.2.1 == k)
def zq_kq (o k : Nat) : Option (Nat × Nat × Int32 × Nat) := zq_ck.find? (fun q => q.1 == o && q.2.1 == k)
def zq_jq (o k : Nat) : Option (Nat × Nat × Int64 × Nat) := zq_cj.find? (fun q => q.1 == o && q.2.1 == k)
abbrev zq_is (S : zq_S) (a c : Nat) : Prop := a < S.1 ∧ (S.2.2 a).1 = c + 2
/-- an array of a kind, not the script -/
abbrev zq_ia (S : zq_S) (a k n : Nat) : Prop := a < S.1 ∧ S.2.2 a = (k, n)
abbrev zq_ix (i : Int32) (n : Nat) : Prop := ¬ (i < 0 ∨ n ≤ i.toNatClampNeg)
def zq_ld (L : List Value) (k : Nat) : Value := L.getD k (.retAddr 0)
def zq_kill (v : Value) : Value := match v with
  | .long _ => .retAddr 0
  | .double _ => .retAddr 0
  | v => v
def zq_s1 : List Value → Nat → Value → List Value
  | [], _, _ => []
  | _ :: r, 0, v => v :: r
  | a :: r, 1, v => zq_kill a :: zq_s1 r 0 v
  | a :: r, n + 2, v => a :: zq_s1 r (n + 1) v
def zq_s2 : List Value → Nat → Value → List Value
  | [], _, _ => []
  | _ :: r, 0, v => v :: (match r with
    | [] => []
    | _ :: r => .retAddr 0 :: r)
  | a :: r, 1, v => zq_kill a :: zq_s2 r 0 v
  | a :: r, n + 2, v => a :: zq_s2 r (n + 1) v
abbrev zq_R : Type := Option (List Value × List Value × zq_G)
def zq_pi (v : Value) (L st : List Value) (g : zq_G) : zq_R := match v with
  | .int x => some (L, .int x :: st, g)
  | _ => none
def zq_pl (v : Value) (L st : List Value) (g : zq_G) : zq_R := match v with
  | .long x => some (L, .long x :: st, g)
  | _ => none
def zq_pa (v : Value) (L st : List Value) (g : zq_G) : zq_R := match v with
  | .ref x => some (L, .ref x :: st, g)
  | .null => some (L, .null :: st, g)
  | _ => none
def zq_si (k : Nat) (L st : List Value) (g : zq_G) : zq_R := match st with
  | .int x :: r => if k < L.length then some (zq_s1 L k (.int x), r, g) else none
  | _ => none
def zq_sl (k : Nat) (L st : List Value) (g : zq_G) : zq_R := match st with
  | .long x :: r => if k + 1 < L.length then some (zq_s2 L k (.long x), r, g) else none
  | _ => none
def zq_sa (k : Nat) (L st : List Value) (g : zq_G) : zq_R := match st with
  | .ref x :: r => if k < L.length then some (zq_s1 L k (.ref x), r, g) else none
  | .null :: r => if k < L.length then some (zq_s1 L k .null, r, g) else none
  | _ => none
def zq_ii (f : Int32 → Int32 → Int32) (L st : List Value) (g : zq_G) : zq_R := match st with
  | .int y :: .int x :: r => some (L, .int (f x y) :: r, g)
  | _ => none
def zq_id (f : Int32 → Int32 → Int32) (L st : List Value) (g : zq_G) : zq_R := match st with
  | .int y :: .int x :: r => if y = 0 then none else some (L, .int (f x y) :: r, g)
  | _ => none
def zq_jj (f : Int64 → Int64 → Int64) (L st : List Value) (g : zq_G) : zq_R := match st with
  | .long y :: .long x :: r => some (L, .long (f x y) :: r, g)
  | _ => none
def zq_jd (f : Int64 → Int64 → Int64) (L st : List Value) (g : zq_G) : zq_R := match st with
  | .long y :: .long x :: r => if y = 0 then none else some (L, .long (f x y) :: r, g)
  | _ => none
def zq_gv (c k a : Nat) (g : zq_G) : Value := match zq_ft c k with
  | 0 => .int (g.2.1 a k)
  | 1 => .long (g.2.2.1 a k)
  | _ => va_rf (g.2.2.2 a k)
def zq_pv (c k a : Nat) (v : Value) (g : zq_G) : Option zq_G := match zq_ft c k, v with
  | 0, .int x => some (g.1, zq_u g.2.1 a k x, g.2.2.1, g.2.2.2)
  | 1, .long x => some (g.1, g.2.1, zq_u g.2.2.1 a k x, g.2.2.2)
  | 2, .ref x => some (g.1, g.2.1, g.2.2.1, zq_u g.2.2.2 a k (some x))
  | _, _ => none
/-- may a field be written here: it is final: in a constructor of its own class, by a plain link -/
def zq_wf (y c k nest : Nat) : Bool := if (zq_T c k).2.2.2 = true then decide (nest ≠ 1 ∧ (zq_i y).2.2.1 = 2 ∧ zq_own y = c) else true
def zq_nc (g : zq_G) (sh : Nat × Nat) (n : Nat) : zq_G := ((g.1.1 + 1, g.1.2.1 + n, fun x => if x = g.1.1 then sh else g.1.2.2 x), zq_w g.2.1 g.1.1 (fun _ => 0), zq_w g.2.2.1 g.1.1 (fun _ => 0), zq_w g.2.2.2 g.1.1 (fun _ => none))
def zq_getf (y k : Nat) (L st : List Value) (g : zq_G) : zq_R := match zq_fq (zq_own y) k with
  | some q => match st with
    | .ref a :: r => if zq_is g.1 a q.2.2.1 then some (L, zq_gv q.2.2.1 q.2.2.2.1 a g :: r, g) else none
    | _ => none
  | none => none
def zq_putf (y k : Nat) (L st : List Value) (g : zq_G) : zq_R := match zq_fq (zq_own y) k with
  | some q => match st with
    | v :: .ref a :: r => if zq_is g.1 a q.2.2.1 ∧ zq_wf y q.2.2.1 q.2.2.2.1 q.2.2.2.2.1 = true then (match zq_pv q.2.2.1 q.2.2.2.1 a v g with
      | some g2 => some (L, r, g2)
      | none => none) else none
    | _ => none
  | none => none
def zq_newo (y k : Nat) (L st : List Value) (g : zq_G) : zq_R := match zq_lq (zq_own y) k with
  | some q => if g.1.1 < 1000 then some (L, .ref g.1.1 :: st, zq_nc g (q.2.2.1 + 2, 0) (zq_N q.2.2.1)) else none
  | none => none
def zq_newa (L st : List Value) (g : zq_G) : zq_R := match st with
  | .int n :: r => if g.1.1 < 1000 ∧ ¬ n < 0 ∧ n.toNatClampNeg ≤ 100000 then some (L, .ref g.1.1 :: r, zq_nc g (0, n.toNatClampNeg) n.toNatClampNeg) else none
  | _ => none
def zq_newq (y k : Nat) (L st : List Value) (g : zq_G) : zq_R := match zq_lq (zq_own y) k with
  | some q => match st with
    | .int n :: r => if q.2.2.1 = 3 ∧ g.1.1 < 1000 ∧ ¬ n < 0 ∧ n.toNatClampNeg ≤ 100000 then some (L, .ref g.1.1 :: r, zq_nc g (1, n.toNatClampNeg) n.toNatClampNeg) else none
    | _ => none
  | none => none
def zq_iald (L st : List Value) (g : zq_G) : zq_R := match st with
  | .int i :: .ref a :: r => if (a < g.1.1 ∨ a = 1000) ∧ (g.1.2.2 a).1 = 0 ∧ zq_ix i (g.1.2.2 a).2 then some (L, .int (g.2.1 a i.toNatClampNeg) :: r, g) else none
  | _ => none
def zq_iast (L st : List Value) (g : zq_G) : zq_R := match st with
  | .int x :: .int i :: .ref a :: r => if a < g.1.1 ∧ a ≠ 1000 ∧ (g.1.2.2 a).1 = 0 ∧ zq_ix i (g.1.2.2 a).2 then some (L, r, (g.1, zq_u g.2.1 a i.toNatClampNeg x, g.2.2.1, g.2.2.2)) else none
  | _ => none
def zq_aald (L st : List Value) (g : zq_G) : zq_R := match st with
  | .int i :: .ref a :: r => if a < g.1.1 ∧ a ≠ 1000 ∧ (g.1.2.2 a).1 = 1 ∧ zq_ix i (g.1.2.2 a).2 then some (L, va_rf (g.2.2.2 a i.toNatClampNeg) :: r, g) else none
  | _ => none
def zq_aast (L st : List Value) (g : zq_G) : zq_R := match st with
  | .ref x :: .int i :: .ref a :: r => if a < g.1.1 ∧ a ≠ 1000 ∧ (g.1.2.2 a).1 = 1 ∧ zq_ix i (g.1.2.2 a).2 ∧ x ≠ 1000 ∧ zq_is g.1 x 3 then some (L, r, (g.1, g.2.1, g.2.2.1, zq_u g.2.2.2 a i.toNatClampNeg (some x))) else none
  | _ => none
def zq_alen (L st : List Value) (g : zq_G) : zq_R := match st with
  | .ref a :: r => if (a < g.1.1 ∨ a = 1000) ∧ (g.1.2.2 a).1 = 0 then some (L, .int (Int32.ofNat (g.1.2.2 a).2) :: r, g) else if a < g.1.1 ∧ a ≠ 1000 ∧ (g.1.2.2 a).1 = 1 then some (L, .int (Int32.ofNat (g.1.2.2 a).2) :: r, g) else none
  | _ => none
def zq_copy (L st : List Value) (g : zq_G) : zq_R := match st with
  | .int n :: .int dp :: .ref a :: .int sp :: .ref a0 :: r =>
    if (a < g.1.1 ∧ a ≠ 1000 ∧ (g.1.2.2 a).1 = 0) ∧ (a0 < g.1.1 ∧ a0 ≠ 1000 ∧ (g.1.2.2 a0).1 = 0) ∧ ¬ sp < 0 ∧ ¬ dp < 0 ∧ ¬ n < 0 ∧ sp.toNatClampNeg + n.toNatClampNeg ≤ (g.1.2.2 a0).2 ∧ dp.toNatClampNeg + n.toNatClampNeg ≤ (g.1.2.2 a).2 ∧ (r.map fun v => v.category).sum ≤ 8
    then some (L, r, (g.1, zq_w g.2.1 a (va_cpy (g.2.1 a0) (g.2.1 a) sp.toNatClampNeg dp.toNatClampNeg n.toNatClampNeg), g.2.2.1, g.2.2.2)) else none
  | _ => none
def zq_mm (mode : Nat) (L st : List Value) (g : zq_G) : zq_R := match st with
  | .int y :: .int x :: r => if (r.map fun v => v.category).sum ≤ 8 then some (L, .int (if mode = 3 then (if x < y then y else x) else (if y < x then y else x)) :: r, g) else none
  | _ => none
def zq_sta (y k : Nat) (L st : List Value) (g : zq_G) : zq_R := match zq_mq (zq_own y) k with
  | some q => match q.2.2.1 with
    | 2 => zq_copy L st g
    | 3 => zq_mm 3 L st g
    | 4 => zq_mm 4 L st g
    | _ => none
  | none => none
def zq_spe (y k : Nat) (L st : List Value) (g : zq_G) : zq_R := match zq_mq (zq_own y) k with
  | some q => if q.2.2.1 = 1 then (match st with
    | .ref _ :: r => if (r.map fun v => v.category).sum ≤ 8 then some (L, r, g) else none
    | _ => none) else none
  | none => none
/-- an instruction that goes on behind itself -/
def zq_op (y : Nat) (i : Instr) (L st : List Value) (g : zq_G) : zq_R := match i with
  | .iconst n => some (L, .int (Int32.ofInt n) :: st, g)
  | .bipush n => some (L, .int (Int8.ofInt n).toInt32 :: st, g)
  | .sipush n => some (L, .int (Int16.ofInt n).toInt32 :: st, g)
  | .lconst n => some (L, .long (Int64.ofNat (n : Nat)) :: st, g)
  | .aconst_null => some (L, .null :: st, g)
  | .ldc k => (zq_kq (zq_own y) k).map fun q => (L, .int q.2.2.1 :: st, g)
  | .ldc_w k => (zq_kq (zq_own y) k).map fun q => (L, .int q.2.2.1 :: st, g)
  | .ldc2_w k => (zq_jq (zq_own y) k).map fun q => (L, .long q.2.2.1 :: st, g)
  | .iload k => zq_pi (zq_ld L k) L st g
  | .iload_n k => zq_pi (zq_ld L k) L st g
  | .lload k => zq_pl (zq_ld L k) L st g
  | .lload_n k => zq_pl (zq_ld L k) L st g
  | .aload k => zq_pa (zq_ld L k) L st g
  | .aload_n k => zq_pa (zq_ld L k) L st g
  | .istore k => zq_si k L st g
  | .istore_n k => zq_si k L st g
  | .lstore k => zq_sl k L st g
  | .lstore_n k => zq_sl k L st g
  | .astore k => zq_sa k L st g
  | .astore_n k => zq_sa k L st g
  | .iinc k n => match zq_ld L k with
    | .int x => if k < L.length then some (zq_s1 L k (.int (x + Int32.ofInt n)), st, g) else none
    | _ => none
  | .iadd => zq_ii (· + ·) L st g
  | .isub => zq_ii (· - ·) L st g
  | .imul => zq_ii (· * ·) L st g
  | .iand => zq_ii (· &&& ·) L st g
  | .ior => zq_ii (· ||| ·) L st g
  | .ixor => zq_ii (· ^^^ ·) L st g
  | .ishl => zq_ii (fun x y => x <<< (y &&& 31)) L st g
  | .ishr => zq_ii (fun x y => x >>> (y &&& 31)) L st g
  | .iushr => zq_ii (fun x y => (x.toUInt32 >>> (y.toUInt32 &&& Int32.toUInt32 31)).toInt32) L st g
  | .idiv => zq_id (fun x y => x / y) L st g
  | .irem => zq_id (fun x y => x - x / y * y) L st g
  | .ladd => zq_jj (· + ·) L st g
  | .lmul => zq_jj (· * ·) L st g
  | .ldiv => zq_jd (fun x y => x / y) L st g
  | .lrem => zq_jd (fun x y => x - x / y * y) L st g
  | .lcmp => match st with
    | .long y :: .long x :: r => some (L, .int (lg_cmp x y) :: r, g)
    | _ => none
  | .i2l => match st with
    | .int x :: r => some (L, .long x.toInt64 :: r, g)
    | _ => none
  | .l2i => match st with
    | .long x :: r => some (L, .int x.toInt32 :: r, g)
    | _ => none
  | .i2b => match st with
    | .int x :: r => some (L, .int x.toInt8.toInt32 :: r, g)
    | _ => none
  | .dup => match st with
    | v :: r => if v.category = 1 then some (L, v :: v :: r, g) else none
    | _ => none
  | .dup2 => match st with
    | v :: w :: r => if v.category = 1 ∧ w.category = 1 then some (L, v :: w :: v :: w :: r, g) else none
    | _ => none
  | .pop => match st with
    | v :: r => if v.category = 1 then some (L, r, g) else none
    | _ => none
  | .getfield k => zq_getf y k L st g
  | .putfield k => zq_putf y k L st g
  | .new k => zq_newo y k L st g
  | .newarray .int => zq_newa L st g
  | .anewarray k => zq_newq y k L st g
  | .iaload => zq_iald L st g
  | .iastore => zq_iast L st g
  | .aaload => zq_aald L st g
  | .aastore => zq_aast L st g
  | .arraylength => zq_alen L st g
  | .invokestatic k => zq_sta y k L st g
  | .invokespecial k => zq_spe y k L st g
  | _ => none
def zq_test (c : ClassFile.Cond) (x y : Int32) : Bool := match c with
  | .eq => decide (x = y)
  | .ne => decide (¬ x = y)
  | .lt => decide (x < y)
  | .ge => decide (y ≤ x)
  | .gt => decide (y < x)
  | .le => decide (x ≤ y)
/-- where a jump goes, and what it leaves of the stack -/
def zq_tg (pc : Nat) (o : Int) : Nat := ((pc : Int) + o).toNat
def zq_jmp (pc : Nat) (i : Instr) (st : List Value) : Option (Nat × List Value) := match i with
  | .goto o => if 0 ≤ (pc : Int) + o then some (zq_tg pc o, st) else none
  | .ifCond c o => match st with
    | .int x :: r => if 0 ≤ (pc : Int) + o then some (if zq_test c x 0 = true then zq_tg pc o else pc + 3, r) else none
    | _ => none
  | .if_icmp c o => match st with
    | .int y :: .int x :: r => if 0 ≤ (pc : Int) + o then some (if zq_test c x y = true then zq_tg pc o else pc + 3, r) else none
    | _ => none
  | .ifnull o => match st with
    | .null :: r => if 0 ≤ (pc : Int) + o then some (zq_tg pc o, r) else none
    | .ref _ :: r => some (pc + 3, r)
    | _ => none
  | .ifnonnull o => match st with
    | .null :: r => some (pc + 3, r)
    | .ref _ :: r => if 0 ≤ (pc : Int) + o then some (zq_tg pc o, r) else none
    | _ => none
  | .tableswitch d lo hi offs => match st with
    | .int x :: r => if x.toInt < lo ∨ hi < x.toInt then (if 0 ≤ (pc : Int) + d then some (zq_tg pc d, r) else none) else (match offs[(x.toInt - lo).toNat]? with
      | some o => if 0 ≤ (pc : Int) + o then some (zq_tg pc o, r) else none
      | none => none)
    | _ => none
  | _ => none
/-- does a return end here, and with what -/
def zq_ret (y : Nat) (i : Instr) (st : List Value) : Option (Option Value) := match i with
  | .ireturn => match st with
    | [.int v] => match zq_rt y with
      | some .int => some (some (.int v))
      | some .boolean => if v = 0 ∨ v = 1 then some (some (.int v)) else none
      | _ => none
    | _ => none
  | .lreturn => match st with
    | [.long v] => match zq_rt y with
      | some .long => some (some (.long v))
      | _ => none
    | _ => none
  | .areturn => match zq_rt y with
    | some t => if refKind t = true then (match st with
      | [.ref a] => some (some (.ref a))
      | [.null] => some (some .null)
      | _ => none) else none
    | none => none
  | .return_ => match st with
    | [] => match zq_rt y with
      | none => some none
      | _ => none
    | _ => none
  | _ => none
/-- a call: which method, its arguments, what is left of the stack -/
def zq_inv (y : Nat) (i : Instr) (st : List Value) (g : zq_G) : Option (Nat × List Value × List Value) :=
  match i with
  | .invokevirtual k => match zq_mq (zq_own y) k with
    | some q => let z := q.2.2.2.1
      if q.2.2.1 = 0 ∧ (zq_i z).2.2.1 = 0 then (match st.drop (zq_i z).2.1 with
        | .ref a :: r => if a ≠ 1000 ∧ zq_is g.1 a (zq_i z).1 ∧ (r.map fun v => v.category).sum ≤ 8 then some (z, .ref a :: (st.take (zq_i z).2.1).reverse, r) else none
        | _ => none) else none
    | none => none
  | .invokestatic k => match zq_mq (zq_own y) k with
    | some q => let z := q.2.2.2.1
      if q.2.2.1 = 0 ∧ (zq_i z).2.2.1 = 1 ∧ (zq_i z).2.1 ≤ st.length ∧ ((st.drop (zq_i z).2.1).map fun v => v.category).sum ≤ 8 then some (z, (st.take (zq_i z).2.1).reverse, st.drop (zq_i z).2.1) else none
    | none => none
  | .invokespecial k => match zq_mq (zq_own y) k with
    | some q => let z := q.2.2.2.1
      if q.2.2.1 = 0 ∧ (zq_i z).2.2.1 = 2 then (match st.drop (zq_i z).2.1 with
        | .ref a :: r => if (r.map fun v => v.category).sum ≤ 8 then some (z, .ref a :: (st.take (zq_i z).2.1).reverse, r) else none
        | _ => none) else none
    | none => none
  | _ => none
abbrev zq_A : Type := Option (Option Value × zq_G)
def zq_run (call : Nat → List Value → zq_G → zq_A) (y : Nat) : Nat → Nat → List Value → List Value → zq_G → zq_A
  | 0, _, _, _, _ => none
  | f + 1, pc, L, st, g => match zq_cd y pc with
    | none => none
    | some (i, len) => match zq_op y i L st g with
      | some (L2, st2, g2) => zq_run call y f (pc + len) L2 st2 g2
      | none => match zq_jmp pc i st with
        | some (t, st2) => zq_run call y f t L st2 g
        | none => match zq_ret y i st with
          | some v => some (v, g)
          | none => match zq_inv y i st g with
            | some (z, as, r) => match call z as g with
              | some (v, g2) => zq_run call y f (pc + 3) L (v.toList ++ r) g2
              | none => none
            | none => none
def zq_fl2 (as : List Value) : List Value := as.flatMap fun v => if v.category = 2 then [v, .retAddr 0] else [v]
def zq_ent (y : Nat) (as : List Value) : List Value := zq_fl2 as ++ List.replicate (zq_ml y - (zq_fl2 as).length) (.retAddr 0)
def zq_ev : Nat → Nat → Nat → List Value → zq_G → zq_A
  | 0, _, _, _, _ => none
  | d + 1, F, y, as, g => if (zq_fl2 as).length ≤ zq_ml y then zq_run (zq_ev d F) y F 0 (zq_ent y as) [] g else none
