theorem z_upd {k : Nat} {f : Nat → Int32} {v : Int32} (hk : k < 2 ^ 31) (h : ∀ j : Nat, j < k → f j = v) : ∀ j : Nat, j < k + 1 → upd f (Int32.toNatClampNeg (nI k)) v j = v := fun j hj => by
  rw [nI_clamp hk]
  by_cases e : j = k
  · rw [e, pk_us]
  · rw [pk_un e]; exact h j (by omega)
theorem zz_nit0 (i : Int32) : f_nit 0 i = 0 := by
  unfold f_nit
  by_cases h : f_isNN i = 0
  · rw [if_pos h]
  · rw [if_neg h, has0, if_pos rfl]
theorem zz_lit0 (i : Int32) : f_lit 0 i = 0 := by
  unfold f_lit
  by_cases h : i < 0
  · rw [if_pos h]
  · rw [if_neg h]
    by_cases h2 : (24 : Int32) ≤ i
    · rw [if_pos h2]
    · rw [if_neg h2, has0, if_pos rfl]
def f_at2 (i a : Int32) : Int32 := if f_isNN i = 0 then 1 else if a = 0 then 0 else if a = 1 then 0 else 1
theorem at_eq (i a : Int32) : f_at2 i a = f_at i a := by
  unfold f_at2 f_at
  by_cases h : f_isNN i = 0
  · rw [if_pos h, if_pos h]
  · rw [if_neg h, if_neg h]
    by_cases h0 : a = 0
    · subst h0; decide
    · rw [if_neg h0]
      by_cases h1 : a = 1
      · subst h1; decide
      · rw [if_neg h1]
        by_cases h2 : a < 0
        · rw [if_pos h2]
        · rw [if_neg h2, if_pos]
          rw [Int32.lt_iff_toInt_lt] at h2 ⊢
          have e0 : a.toInt ≠ (0 : Int32).toInt := fun e => h0 (Int32.toInt_inj.mp e)
          have e1 : a.toInt ≠ (1 : Int32).toInt := fun e => h1 (Int32.toInt_inj.mp e)
          have q0 : (0 : Int32).toInt = 0 := by decide
          have q1 : (1 : Int32).toInt = 1 := by decide
          rw [q0] at h2 e0
          rw [q1] at e1 ⊢
          omega
