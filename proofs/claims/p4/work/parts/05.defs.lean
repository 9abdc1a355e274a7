def f_has (x y : Int32) : Int32 := if (x >>> (y &&& 31)) &&& 1 = 0 then 0 else 1
def f_isNN (i : Int32) : Int32 := if i < 0 then 0 else if 10 ≤ i then 0 else 1
def f_nit (b i : Int32) : Int32 := if f_isNN i = 0 then 0 else if f_has b i = 0 then 0 else 1
def f_lit (b i : Int32) : Int32 := if i < 0 then 0 else if 24 ≤ i then 0 else if f_has b i = 0 then 0 else 1
def f_bc1 (x : Int32) : Int32 := x - ((x.toUInt32 >>> (Int32.toUInt32 1 &&& Int32.toUInt32 31)).toInt32 &&& 1431655765)
def f_bc2 (x : Int32) : Int32 := (x &&& 858993459) + ((x.toUInt32 >>> (Int32.toUInt32 2 &&& Int32.toUInt32 31)).toInt32 &&& 858993459)
def f_bc3 (x : Int32) : Int32 := (x + (x.toUInt32 >>> (Int32.toUInt32 4 &&& Int32.toUInt32 31)).toInt32) &&& 252645135
def f_bc4 (x : Int32) : Int32 := x + (x.toUInt32 >>> (Int32.toUInt32 8 &&& Int32.toUInt32 31)).toInt32
def f_bc5 (x : Int32) : Int32 := x + (x.toUInt32 >>> (Int32.toUInt32 16 &&& Int32.toUInt32 31)).toInt32
def f_bc (x : Int32) : Int32 := f_bc5 (f_bc4 (f_bc3 (f_bc2 (f_bc1 x)))) &&& 63
def f_fill (N : Nat) (v : Int32) (f : Nat → Int32) : Nat → Int32 := fun j => if j < N then v else f j
def f_join (f : Nat → Int32) (a b : Int32) : Nat → Int32 := upd (upd f a.toNatClampNeg (f a.toNatClampNeg ||| (1 <<< (b &&& 31)))) b.toNatClampNeg ((upd f a.toNatClampNeg (f a.toNatClampNeg ||| (1 <<< (b &&& 31)))) b.toNatClampNeg ||| (1 <<< (a &&& 31)))
theorem has0 (y : Int32) : f_has 0 y = 0 := by
  unfold f_has
  rw [if_pos]
  have h : (0 : Int32) >>> (y &&& 31) = 0 := by
    apply Int32.toBitVec_inj.mp
    simp [Int32.toBitVec_shiftRight]
  rw [h]
  decide
theorem sh0 (y : Int32) : (0 : Int32) >>> y = 0 := by
  apply Int32.toBitVec_inj.mp
  simp [Int32.toBitVec_shiftRight]
theorem in_lt {i : Int32} {n : Nat} (h : vp_in i n) : i.toNatClampNeg < n := by
  unfold vp_in at h
  omega
theorem in_of {i c : Int32} (n : Nat) (hc : c = nI n) (hn : n < 2 ^ 31) (h0 : ¬ i < 0) (h1 : ¬ c ≤ i) : vp_in i n := by
  subst hc
  rw [vp_in_iff]
  rw [Int32.lt_iff_toInt_lt, Int32.toInt_zero] at h0
  rw [Int32.le_iff_toInt_le, nI_toInt hn] at h1
  omega
theorem isNN_in {i : Int32} (h : ¬ f_isNN i = 0) : vp_in i 10 := by
  unfold f_isNN at h
  by_cases h0 : i < 0
  · rw [if_pos h0] at h; exact absurd rfl h
  · rw [if_neg h0] at h
    by_cases h1 : (10 : Int32) ≤ i
    · rw [if_pos h1] at h; exact absurd rfl h
    · exact in_of 10 rfl (by decide) h0 h1
def f_ref (a b c : Int32) : Int32 := if a = 0 then (if b = 0 then (if c = 0 then 0 else 3) else 2) else 1
def f_cnt (f : Nat → Int32) : Nat → Int32
  | 0 => 0
  | k + 1 => if f k = 0 then f_cnt f k else f_cnt f k + 1
theorem cnt_zero {f : Nat → Int32} : ∀ n : Nat, (∀ j, j < n → f j = 0) → f_cnt f n = 0
  | 0, _ => rfl
  | k + 1, h => by rw [f_cnt, if_pos (h k (Nat.lt_succ_self k))]; exact cnt_zero k (fun j hj => h j (Nat.lt_succ_of_lt hj))
theorem cnt_one {f : Nat → Int32} {i : Nat} {v : Int32} (hv : ¬ v = 0) : ∀ n : Nat, (∀ j, j < n → f j = 0) → f_cnt (upd f i v) n = if i < n then 1 else 0
  | 0, _ => by simp [f_cnt]
  | k + 1, h => by
    have ih := cnt_one hv (i := i) k (fun j hj => h j (Nat.lt_succ_of_lt hj))
    by_cases hk : k = i
    · subst hk
      rw [f_cnt, pk_us, if_neg hv, ih, if_neg (Nat.lt_irrefl k), if_pos (Nat.lt_succ_self k)]
      decide
    · rw [f_cnt, pk_un hk, if_pos (h k (Nat.lt_succ_self k)), ih]
      by_cases hi : i < k
      · rw [if_pos hi, if_pos (Nat.lt_succ_of_lt hi)]
      · rw [if_neg hi, if_neg (by omega)]
def f_pl (i x y : Int32) : Int32 := if f_isNN i = 0 then 1 else if x < 0 then 2 else if 30 < x then 2 else if y < 0 then 2 else if 30 < y then 2 else 0
def f_at (i a : Int32) : Int32 := if f_isNN i = 0 then 1 else if a < 0 then 1 else if 1 < a then 1 else 0
theorem and_m1 {x : Int32} (h : x &&& (0 ^^^ (-1)) = 0) : x = 0 := by
  have e : (0 ^^^ (-1) : Int32) = -1 := by decide
  rw [e] at h
  have h2 : x.toBitVec &&& (-1 : Int32).toBitVec = (0 : Int32).toBitVec := by rw [← Int32.toBitVec_and, h]
  apply Int32.toBitVec_inj.mp
  have e2 : (-1 : Int32).toBitVec = BitVec.allOnes 32 := by decide
  rw [e2, BitVec.and_allOnes] at h2
  exact h2
theorem z_nlt {x y : Int32} (h : x ≤ y) : ¬ y < x := by
  rw [Int32.lt_iff_toInt_lt]
  rw [Int32.le_iff_toInt_le] at h
  omega
theorem z_ltn {x y : Int32} (h : ¬ x ≤ y) : y < x := by
  rw [Int32.lt_iff_toInt_lt]
  rw [Int32.le_iff_toInt_le] at h
  omega
