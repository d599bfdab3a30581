/-! Numbers and bits, as the methods' loops need them -/
theorem zb_x {k n : Nat} (h : k < n) (hn : n < 2147483648) : zq_xS (nI k) n := vp_in_nI h (by omega)
theorem zb_cl {k : Nat} (h : k < 2147483648) : (nI k).toNatClampNeg = k := nI_clamp (by omega)
theorem zb_lt {a b : Nat} (ha : a < 2147483648) (hb : b < 2147483648) : (nI a < nI b) = (a < b) := propext (nI_ltI (by omega) (by omega))
theorem zb_eq {a b : Nat} (ha : a < 2147483648) (hb : b < 2147483648) : (nI a = nI b) = (a = b) := propext (nI_eq (by omega) (by omega))
/-- a set by bits -/
def zb_set (p : Nat → Bool) : Nat → Int32
  | 0 => 0
  | n + 1 => if p n = true then zb_set p n ||| ((1 : Int32) <<< (nI n &&& 31)) else zb_set p n
theorem zb_set_s (p : Nat → Bool) (n : Nat) : zb_set p (n + 1) = if p n = true then zb_set p n ||| ((1 : Int32) <<< (nI n &&& 31)) else zb_set p n := rfl
theorem zb_set_cong {p q : Nat → Bool} {n : Nat} (h : ∀ k, k < n → p k = q k) : zb_set p n = zb_set q n := by
  induction n with
  | zero => rfl
  | succ n ih => rw [zb_set_s, zb_set_s, ih (fun k hk => h k (by omega)), h n (by omega)]
