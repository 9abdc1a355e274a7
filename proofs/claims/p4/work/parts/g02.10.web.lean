def F_clearG (zw_near : Nat → Int32) : Option ((Nat → Int32)) := some (f_fill 11 ((0 : Int32)) zw_near)
def F_joinG (zw_near : Nat → Int32) (v1 : Int32) (v2 : Int32) : Option ((Nat → Int32)) := (if inb v1 11 = true then (if inb v2 11 = true then some (upd (upd zw_near (Int32.toNatClampNeg v1) ((zw_near (Int32.toNatClampNeg v1)) ||| (((1 : Int32)) <<< (v2 &&& 31)))) (Int32.toNatClampNeg v2) (((upd zw_near (Int32.toNatClampNeg v1) ((zw_near (Int32.toNatClampNeg v1)) ||| (((1 : Int32)) <<< (v2 &&& 31)))) (Int32.toNatClampNeg v2)) ||| (((1 : Int32)) <<< (v1 &&& 31)))) else none) else none)
def F_neighboursG (zw_near : Nat → Int32) (v1 : Int32) : Option (Int32) := (if inb v1 11 = true then some (zw_near (Int32.toNatClampNeg v1)) else none)
def F_degreeG (zw_near : Nat → Int32) (v1 : Int32) : Option (Int32) := (if inb v1 11 = true then some (f_bc (zw_near (Int32.toNatClampNeg v1))) else none)
def F_reachG_L28 (K_28 : Int32 → Option (Int32)) (zw_near : Nat → Int32) (v4_10 : Int32) : Nat → Nat → Int32 → Option (Int32)
  | 0, k_28, v6_28 => K_28 v6_28
  | n_28 + 1, k_28, v6_28 => (if (f_has v4_10 (nI k_28)) = 0 then (F_reachG_L28 K_28 zw_near v4_10 n_28 (k_28 + 1) v6_28) else (F_reachG_L28 K_28 zw_near v4_10 n_28 (k_28 + 1) (v6_28 ||| (zw_near k_28))))
def F_reachG_L10 (K_10 : Int32 → Int32 → Option (Int32)) (zw_near : Nat → Int32) (v2 : Int32) : Nat → Nat → Int32 → Int32 → Option (Int32)
  | 0, k_10, v3_10, v4_10 => K_10 v3_10 v4_10
  | n_10 + 1, k_10, v3_10, v4_10 => (if v4_10 = 0 then (K_10 v3_10 v4_10) else (F_reachG_L28 (fun v6_28 => (F_reachG_L10 K_10 zw_near v2 n_10 (k_10 + 1) (v3_10 ||| (v6_28 &&& (v3_10 ^^^ ((-1))))) ((v6_28 &&& (v3_10 ^^^ ((-1)))) &&& v2))) zw_near v4_10 11 0 ((0 : Int32))))
def F_reachG (zw_near : Nat → Int32) (v1 : Int32) (v2 : Int32) : Option (Int32) := (F_reachG_L10 (fun v3_10 v4_10 => some (v3_10)) zw_near v2 11 0 (((1 : Int32)) <<< (v1 &&& 31)) (((1 : Int32)) <<< (v1 &&& 31)))
