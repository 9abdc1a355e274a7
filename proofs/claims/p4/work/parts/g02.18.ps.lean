def F_nthOfG_L4 (K_4 : Int32 → Option (Int32)) (v0 : Int32) (v1 : Int32) : Nat → Nat → Int32 → Option (Int32)
  | 0, k_4, v2_4 => K_4 v2_4
  | n_4 + 1, k_4, v2_4 => (if (f_has v0 (nI k_4)) = 0 then (F_nthOfG_L4 K_4 v0 v1 n_4 (k_4 + 1) v2_4) else (if v2_4 = v1 then some (nI k_4) else (F_nthOfG_L4 K_4 v0 v1 n_4 (k_4 + 1) (v2_4 + 1))))
def F_nthOfG (v0 : Int32) (v1 : Int32) : Option (Int32) := (F_nthOfG_L4 (fun v2_4 => some ((-1))) v0 v1 10 0 ((0 : Int32)))
def F_freeNumberG_L2 (K_2 : Unit → Option (Int32)) (zx_lineBits : Int32) : Nat → Nat → Option (Int32)
  | 0, k_2 => K_2 ()
  | n_2 + 1, k_2 => (if (f_has zx_lineBits (nI k_2)) = 0 then some (nI k_2) else (F_freeNumberG_L2 K_2 zx_lineBits n_2 (k_2 + 1)))
def F_freeNumberG (zx_lineBits : Int32) : Option (Int32) := (F_freeNumberG_L2 (fun (_ : Unit) => some ((-1))) zx_lineBits 24 0)
def F_isEndG (zx_lessEnd : Nat → Int32) (zx_moreEnd : Nat → Int32) (v1 : Int32) (v2 : Int32) : Option (Int32) := (if inb v2 24 = true then (if (zx_lessEnd (Int32.toNatClampNeg v2)) = v1 then some ((1 : Int32)) else (if (zx_moreEnd (Int32.toNatClampNeg v2)) = v1 then some ((1 : Int32)) else some ((0 : Int32)))) else none)
def F_linesOfG_L4 (K_4 : Int32 → Option (Int32)) (zx_lineBits : Int32) (zx_lessEnd : Nat → Int32) (zx_moreEnd : Nat → Int32) (v1 : Int32) : Nat → Nat → Int32 → Option (Int32)
  | 0, k_4, v2_4 => K_4 v2_4
  | n_4 + 1, k_4, v2_4 => (((if (f_has zx_lineBits (nI k_4)) = 0 then (some (v2_4)) else ((F_isEndG zx_lessEnd zx_moreEnd v1 (nI k_4)).bind (fun p_24 => (if p_24 = 0 then (some (v2_4)) else (some (v2_4 ||| (((1 : Int32)) <<< ((nI k_4) &&& 31))))))))).bind (fun (j_36_18 : Int32) => (F_linesOfG_L4 K_4 zx_lineBits zx_lessEnd zx_moreEnd v1 n_4 (k_4 + 1) j_36_18)))
def F_linesOfG (zx_lineBits : Int32) (zx_lessEnd : Nat → Int32) (zx_moreEnd : Nat → Int32) (v1 : Int32) : Option (Int32) := (F_linesOfG_L4 (fun v2_4 => some (v2_4)) zx_lineBits zx_lessEnd zx_moreEnd v1 24 0 ((0 : Int32)))
def F_joinedG (zx_lineBits : Int32) (zx_lessEnd : Nat → Int32) (zx_moreEnd : Nat → Int32) (v1 : Int32) (v2 : Int32) : Option (Int32) := ((F_linesOfG zx_lineBits zx_lessEnd zx_moreEnd v1).bind (fun p_2 => ((F_linesOfG zx_lineBits zx_lessEnd zx_moreEnd v2).bind (fun p_7 => (if (p_2 &&& p_7) = 0 then some ((0 : Int32)) else some ((1 : Int32)))))))
def F_spinG_L9 (K_9 : (Nat → Int32) → Option ((Nat → Int32))) (zx_lessEnd : Nat → Int32) (zx_moreEnd : Nat → Int32) (v1 : Int32) : Nat → Nat → (Nat → Int32) → Option ((Nat → Int32))
  | 0, k_9, wx_web_near_9 => K_9 wx_web_near_9
  | n_9 + 1, k_9, wx_web_near_9 => (if (f_has v1 (nI k_9)) = 0 then (F_spinG_L9 K_9 zx_lessEnd zx_moreEnd v1 n_9 (k_9 + 1) wx_web_near_9) else ((F_joinG wx_web_near_9 (zx_lessEnd k_9) (zx_moreEnd k_9)).bind (fun p_39 => (F_spinG_L9 K_9 zx_lessEnd zx_moreEnd v1 n_9 (k_9 + 1) p_39))))
def F_spinG (zx_lessEnd : Nat → Int32) (zx_moreEnd : Nat → Int32) (zx_web_near : Nat → Int32) (v1 : Int32) : Option ((Nat → Int32)) := ((F_clearG zx_web_near).bind (fun p_4 => (F_spinG_L9 (fun wx_web_near_9 => some (wx_web_near_9)) zx_lessEnd zx_moreEnd v1 24 0 p_4)))
def F_otherEndG (zx_lessEnd : Nat → Int32) (zx_moreEnd : Nat → Int32) (v1 : Int32) (v2 : Int32) : Option (Int32) := (if inb v1 24 = true then (if (zx_lessEnd (Int32.toNatClampNeg v1)) = v2 then some (zx_moreEnd (Int32.toNatClampNeg v1)) else some (zx_lessEnd (Int32.toNatClampNeg v1))) else none)
