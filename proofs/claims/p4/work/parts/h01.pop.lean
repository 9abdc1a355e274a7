def mk55 : Nat → Nat
  | 0 => 0
  | n + 1 => 85 + 256 * mk55 n
def mk33 : Nat → Nat
  | 0 => 0
  | n + 1 => 51 + 256 * mk33 n
def mk0f : Nat → Nat
  | 0 => 0
  | n + 1 => 15 + 256 * mk0f n
def P1 (n m : Nat) : Nat := m - ((m / 2) &&& mk55 n)
def P2 (n m : Nat) : Nat := (m &&& mk33 n) + ((m / 4) &&& mk33 n)
def P3 (n m : Nat) : Nat := (m + m / 16) &&& mk0f n
theorem and8 {a u : Nat} (ha : a < 256) (hu : u < 256) (q v : Nat) : (a + 256 * q) &&& (u + 256 * v) = (a &&& u) + 256 * (q &&& v) := by
  have h1 : (a &&& u) < 2 ^ 8 := Nat.and_lt_two_pow a hu
  apply Nat.eq_of_testBit_eq
  intro i
  rw [Nat.add_comm a, Nat.add_comm u, Nat.add_comm (a &&& u), Nat.testBit_and]
  rw [show 256 = 2 ^ 8 by rfl, Nat.testBit_two_pow_mul_add q ha, Nat.testBit_two_pow_mul_add v hu, Nat.testBit_two_pow_mul_add _ h1]
  split <;> rw [Nat.testBit_and]
theorem w1_ : ∀ a : Nat, a < 256 → ∀ r : Nat, r < 2 → ((a / 2 + 128 * r) &&& 85) = ((a / 2) &&& 85) ∧ ((a / 2) &&& 85) ≤ a := by decide +kernel
theorem P1_one : ∀ a : Nat, a < 256 → P1 1 a = a - ((a / 2) &&& 85) ∧ P1 1 a < 256 := by decide +kernel
theorem P1_split (n : Nat) {a : Nat} (ha : a < 256) (q : Nat) : P1 (n + 1) (a + 256 * q) = P1 1 a + 256 * P1 n q := by
  have h := w1_ a ha (q % 2) (by omega)
  have hq : ((q / 2) &&& mk55 n) ≤ q := Nat.le_trans Nat.and_le_left (Nat.div_le_self _ _)
  have e : (a + 256 * q) / 2 = (a / 2 + 128 * (q % 2)) + 256 * (q / 2) := by omega
  rw [(P1_one a ha).1]
  unfold P1
  rw [e, mk55, and8 (by omega) (by decide), h.1]
  have := h.2
  omega
theorem w2_ : ∀ a : Nat, a < 256 → ∀ r : Nat, r < 4 → ((a / 4 + 64 * r) &&& 51) = ((a / 4) &&& 51) := by decide +kernel
theorem P2_one : ∀ a : Nat, a < 256 → P2 1 a = (a &&& 51) + ((a / 4) &&& 51) := by decide +kernel
theorem P2_split (n : Nat) {a : Nat} (ha : a < 256) (q : Nat) : P2 (n + 1) (a + 256 * q) = P2 1 a + 256 * P2 n q := by
  have e : (a + 256 * q) / 4 = (a / 4 + 64 * (q % 4)) + 256 * (q / 4) := by omega
  rw [P2_one a ha]
  unfold P2
  rw [e, mk33, and8 ha (by decide), and8 (by omega) (by decide), w2_ a ha (q % 4) (by omega)]
  omega
def pw (a : Nat) : Nat := P2 1 (P1 1 a)
theorem pw_ok : ∀ a : Nat, a < 256 → pw a ≤ 68 ∧ pw a % 16 ≤ 4 ∧ ((pw a + pw a / 16) &&& 15) ≤ 8 := by decide +kernel
def pop8 (a : Nat) : Nat := (pw a + pw a / 16) &&& 15
theorem w3_ : ∀ a : Nat, a < 100 → ∀ r : Nat, r < 5 → ((a + a / 16 + 16 * r) &&& 15) = ((a + a / 16) &&& 15) := by decide +kernel
theorem P3_split (n : Nat) {a : Nat} (ha : a ≤ 68) (q : Nat) (hq : q % 16 ≤ 4) : P3 (n + 1) (a + 256 * q) = ((a + a / 16) &&& 15) + 256 * P3 n q := by
  have e : (a + 256 * q) + (a + 256 * q) / 16 = (a + a / 16 + 16 * (q % 16)) + 256 * (q + q / 16) := by omega
  unfold P3
  rw [e, mk0f, and8 (by omega) (by decide), w3_ a (by omega) (q % 16) (by omega)]
theorem pop_split (n : Nat) {a : Nat} (ha : a < 256) (q : Nat) (hq : P2 n (P1 n q) % 16 ≤ 4) : P3 (n + 1) (P2 (n + 1) (P1 (n + 1) (a + 256 * q))) = pop8 a + 256 * P3 n (P2 n (P1 n q)) ∧ P2 (n + 1) (P1 (n + 1) (a + 256 * q)) % 16 ≤ 4 := by
  have h1 := P1_one a ha
  rw [P1_split n ha, P2_split n h1.2]
  have h2 := pw_ok a ha
  unfold pw at h2
  rw [P3_split n h2.1 _ hq]
  exact ⟨rfl, by omega⟩
theorem pop4 {a b c d : Nat} (ha : a < 256) (hb : b < 256) (hc : c < 256) (hd : d < 256) : P3 4 (P2 4 (P1 4 (a + 256 * (b + 256 * (c + 256 * d))))) = pop8 a + 256 * (pop8 b + 256 * (pop8 c + 256 * pop8 d)) := by
  have e0 : P3 0 (P2 0 (P1 0 0)) = 0 ∧ P2 0 (P1 0 0) % 16 ≤ 4 := by decide
  have e1 := pop_split 0 hd 0 e0.2
  simp only [Nat.mul_zero, Nat.add_zero, Nat.zero_add] at e1
  have e2 := pop_split 1 hc d e1.2
  have e3 := pop_split 2 hb (c + 256 * d) e2.2
  have e4 := pop_split 3 ha (b + 256 * (c + 256 * d)) e3.2
  rw [e4.1, e3.1, e2.1, e1.1, e0.1, Nat.mul_zero, Nat.add_zero]
theorem pop8_cf : ∀ a : Nat, a < 256 → pop8 a = cf (fun i => a.testBit i) 8 0 := by decide +kernel
theorem bc_nat (x : Int32) : (f_bc x).toBitVec.toNat = (let m := P3 4 (P2 4 (P1 4 x.toBitVec.toNat)); let m4 := (m + m / 256) % 2 ^ 32; ((m4 + m4 / 65536) % 2 ^ 32) &&& 63) := by
  have hx : x.toBitVec.toNat < 2 ^ 32 := x.toBitVec.isLt
  have hle : ((x.toBitVec.toNat / 2) &&& mk55 4) ≤ x.toBitVec.toNat := Nat.le_trans Nat.and_le_left (Nat.div_le_self _ _)
  have b1 : (f_bc1 x).toBitVec.toNat = P1 4 x.toBitVec.toNat := by
    unfold f_bc1 P1
    rw [Int32.toBitVec_sub, BitVec.toNat_sub, Int32.toBitVec_and, BitVec.toNat_and, pk_ushr x 1 1 (by decide)]
    rw [show (1431655765 : Int32).toBitVec.toNat = mk55 4 by decide]
    rw [show 2 ^ 1 = 2 by rfl]
    omega
  have h1 : P1 4 x.toBitVec.toNat < 2 ^ 32 := by rw [← b1]; exact (f_bc1 x).toBitVec.isLt
  have b2 : (f_bc2 (f_bc1 x)).toBitVec.toNat = P2 4 (P1 4 x.toBitVec.toNat) := by
    unfold f_bc2 P2
    rw [Int32.toBitVec_add, BitVec.toNat_add, Int32.toBitVec_and, BitVec.toNat_and, Int32.toBitVec_and, BitVec.toNat_and, pk_ushr _ 2 2 (by decide), b1]
    rw [show (858993459 : Int32).toBitVec.toNat = mk33 4 by decide]
    rw [show 2 ^ 2 = 4 by rfl]
    have q1 : (P1 4 x.toBitVec.toNat &&& mk33 4) ≤ mk33 4 := Nat.and_le_right
    have q2 : (P1 4 x.toBitVec.toNat / 4 &&& mk33 4) ≤ mk33 4 := Nat.and_le_right
    have q3 : mk33 4 = 858993459 := by decide
    omega
  have h2 : P2 4 (P1 4 x.toBitVec.toNat) ≤ 1717986918 := by
    unfold P2
    have q1 : (P1 4 x.toBitVec.toNat &&& mk33 4) ≤ mk33 4 := Nat.and_le_right
    have q2 : (P1 4 x.toBitVec.toNat / 4 &&& mk33 4) ≤ mk33 4 := Nat.and_le_right
    have q3 : mk33 4 = 858993459 := by decide
    omega
  have b3 : (f_bc3 (f_bc2 (f_bc1 x))).toBitVec.toNat = P3 4 (P2 4 (P1 4 x.toBitVec.toNat)) := by
    unfold f_bc3 P3
    rw [Int32.toBitVec_and, BitVec.toNat_and, Int32.toBitVec_add, BitVec.toNat_add, pk_ushr _ 4 4 (by decide), b2]
    rw [show (252645135 : Int32).toBitVec.toNat = mk0f 4 by decide]
    rw [show 2 ^ 4 = 16 by rfl]
    rw [Nat.mod_eq_of_lt (by omega)]
  unfold f_bc
  rw [Int32.toBitVec_and, BitVec.toNat_and]
  unfold f_bc5 f_bc4
  rw [Int32.toBitVec_add, BitVec.toNat_add, pk_ushr _ 16 16 (by decide), Int32.toBitVec_add, BitVec.toNat_add, pk_ushr _ 8 8 (by decide), b3]
  rfl
theorem byte_cf (m k : Nat) : pop8 (m / 2 ^ k % 256) = cf (fun i => m.testBit i) 8 k := by
  rw [pop8_cf _ (Nat.mod_lt _ (by decide))]
  have h : ∀ i, i < 8 → (m / 2 ^ k % 256).testBit i = m.testBit (k + i) := by
    intro i hi
    rw [show 256 = 2 ^ 8 by rfl, Nat.testBit_mod_two_pow, Nat.testBit_div_two_pow, decide_eq_true hi, Bool.true_and]
    rw [Nat.add_comm]
  simp only [cf, h 0 (by decide), h 1 (by decide), h 2 (by decide), h 3 (by decide), h 4 (by decide), h 5 (by decide), h 6 (by decide), h 7 (by decide), Nat.add_zero]
theorem fin_pop {a b c d X : Nat} (ha : a ≤ 8) (hb : b ≤ 8) (hc : c ≤ 8) (hd : d ≤ 8) (hX : X = a + 256 * (b + 256 * (c + 256 * d))) : ((((X + X / 256) % 2 ^ 32) + ((X + X / 256) % 2 ^ 32) / 65536) % 2 ^ 32) % 2 ^ 6 = a + b + c + d := by
  have e1 : X / 256 = b + 256 * c + 65536 * d := by omega
  have e2 : (X + X / 256) % 2 ^ 32 = (a + b) + 256 * (b + c) + 65536 * (c + d) + 16777216 * d := by
    rw [e1, Nat.mod_eq_of_lt (by omega)]; omega
  rw [e2]
  have e3 : ((a + b) + 256 * (b + c) + 65536 * (c + d) + 16777216 * d) / 65536 = (c + d) + 256 * d := by omega
  rw [e3, Nat.mod_eq_of_lt (a := (a + b) + 256 * (b + c) + 65536 * (c + d) + 16777216 * d + ((c + d) + 256 * d)) (by omega)]
  omega
theorem bc_eq (x : Int32) : f_bc x = nI (cf (bit x) 32 0) := by
  have hx : x.toBitVec.toNat < 2 ^ 32 := x.toBitVec.isLt
  generalize hm : x.toBitVec.toNat = m at hx
  have hb : ∀ i, bit x i = m.testBit i := fun i => by rw [← hm]; rfl
  have e : m = m % 256 + 256 * (m / 2 ^ 8 % 256 + 256 * (m / 2 ^ 16 % 256 + 256 * (m / 2 ^ 24 % 256))) := by omega
  have hp := pop4 (a := m % 256) (b := m / 2 ^ 8 % 256) (c := m / 2 ^ 16 % 256) (d := m / 2 ^ 24 % 256) (by omega) (by omega) (by omega) (by omega)
  rw [← e] at hp
  have g0 : pop8 (m % 256) = cf (fun i => m.testBit i) 8 0 := by
    have := byte_cf m 0
    rwa [Nat.pow_zero, Nat.div_one] at this
  have g1 := byte_cf m 8
  have g2 := byte_cf m 16
  have g3 := byte_cf m 24
  have ht : cf (bit x) 32 0 = pop8 (m % 256) + pop8 (m / 2 ^ 8 % 256) + pop8 (m / 2 ^ 16 % 256) + pop8 (m / 2 ^ 24 % 256) := by
    rw [show bit x = fun i => m.testBit i from funext hb, g0, g1, g2, g3]
    rw [show (32 : Nat) = 8 + 24 by rfl, cf_add, show (24 : Nat) = 8 + 16 by rfl, cf_add, show (16 : Nat) = 8 + 8 by rfl, cf_add]
    simp only [Nat.zero_add, Nat.reduceAdd]
    omega
  have l0 := cf_le (p := fun i => m.testBit i) 8 0
  have l1 := cf_le (p := fun i => m.testBit i) 8 8
  have l2 := cf_le (p := fun i => m.testBit i) 8 16
  have l3 := cf_le (p := fun i => m.testBit i) 8 24
  rw [← g0] at l0; rw [← g1] at l1; rw [← g2] at l2; rw [← g3] at l3
  apply Int32.toBitVec_inj.mp
  apply BitVec.eq_of_toNat_eq
  rw [bc_nat x, hm, hp, ht]
  generalize pop8 (m % 256) = a at *
  generalize pop8 (m / 2 ^ 8 % 256) = b at *
  generalize pop8 (m / 2 ^ 16 % 256) = c at *
  generalize pop8 (m / 2 ^ 24 % 256) = d at *
  have r : (nI (a + b + c + d)).toBitVec.toNat = a + b + c + d := by
    show (BitVec.ofNat 32 (a + b + c + d)).toNat = _
    rw [BitVec.toNat_ofNat, Nat.mod_eq_of_lt (by omega)]
  rw [r]
  show ((((a + 256 * (b + 256 * (c + 256 * d)) + (a + 256 * (b + 256 * (c + 256 * d))) / 256) % 2 ^ 32) + ((a + 256 * (b + 256 * (c + 256 * d)) + (a + 256 * (b + 256 * (c + 256 * d))) / 256) % 2 ^ 32) / 65536) % 2 ^ 32) &&& 63 = a + b + c + d
  rw [show (63 : Nat) = 2 ^ 6 - 1 by rfl, Nat.and_two_pow_sub_one_eq_mod]
  exact fin_pop l0 l1 l2 l3 rfl
theorem bc_lt {x : Int32} {n : Nat} (hn : n ≤ 32) (h : ∀ i, n ≤ i → bit x i = false) : f_bc x = nI (cf (bit x) n 0) := by
  rw [bc_eq]
  have e : 32 = n + (32 - n) := by omega
  rw [e, cf_add, Nat.zero_add, cf_none (32 - n) n (fun i h1 h2 => h i h1), Nat.add_zero]
