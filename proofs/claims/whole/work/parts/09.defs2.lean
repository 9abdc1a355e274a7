theorem z_upd {k : Nat} {f : Nat → Int32} {v : Int32} (hk : k < 2 ^ 31) (h : ∀ j : Nat, j < k → f j = v) : ∀ j : Nat, j < k + 1 → upd f (Int32.toNatClampNeg (nI k)) v j = v := fun j hj => by
  rw [nI_clamp hk]
  by_cases e : j = k
  · rw [e, pk_us]
  · rw [pk_un e]; exact h j (by omega)
