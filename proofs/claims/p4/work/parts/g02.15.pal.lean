def F_shadeOfG (zq_shades : Nat → Int32) (v1 : Int32) : Option (Int32) := (if inb v1 10 = true then some (zq_shades (Int32.toNatClampNeg v1)) else none)
def F_hasLaterG (zw_near : Nat → Int32) (v1 : Int32) : Option (Int32) := ((F_neighboursG zw_near v1).bind (fun p_2 => (if (p_2 >>> (v1 &&& 31)) = 0 then some ((0 : Int32)) else some ((1 : Int32)))))
def F_isFreeG_L3 (K_3 : Int32 → Option (Int32)) (zq_shades : Nat → Int32) (zw_near : Nat → Int32) (v2 : Int32) (v3 : Int32) : Nat → Int32 → Option (Int32)
  | 0, _ => none
  | n_3 + 1, v4_3 => (if v3 ≤ v4_3 then (K_3 v4_3) else ((F_neighboursG zw_near v3).bind (fun p_11 => (if (f_has p_11 v4_3) = 0 then (F_isFreeG_L3 K_3 zq_shades zw_near v2 v3 n_3 (v4_3 + 1)) else (if inb v4_3 10 = true then (if (zq_shades (Int32.toNatClampNeg v4_3)) = v2 then some ((0 : Int32)) else (F_isFreeG_L3 K_3 zq_shades zw_near v2 v3 n_3 (v4_3 + 1))) else none)))))
def F_isFreeG (zq_shades : Nat → Int32) (zw_near : Nat → Int32) (v2 : Int32) (v3 : Int32) : Option (Int32) := (F_isFreeG_L3 (fun v4_3 => some ((1 : Int32))) zq_shades zw_near v2 v3 64 ((0 : Int32)))
