def gN (near : Nat → Int32) (a b : Nat) : Bool := decide (a < 11) && (decide (b < 11) && bit (near a) b)
theorem gN_iff {near : Nat → Int32} {a b : Nat} : gN near a b = true ↔ aj near a b := by
  unfold gN aj
  rw [Bool.and_eq_true, Bool.and_eq_true, decide_eq_true_iff, decide_eq_true_iff]
theorem gN_Gb {near : Nat → Int32} (hW : Wb near) : Gb (gN near) := Gb.mk' (fun a b e => gN_iff.mpr (hW.2 a b (gN_iff.mp e))) (fun a e => hW.1 a a (gN_iff.mp e) rfl) (fun a b e => (gN_iff.mp e).1)
theorem gN_ZZ {near : Nat → Int32} : ZZ (gd (gN near)) ↔ ZZ (aj near) := ⟨fun h => h.sub (fun _ _ q => gN_iff.mpr q), fun h => h.sub (fun _ _ q => gN_iff.mp q)⟩
def Bd (near : Nat → Int32) : Prop := ∀ a, a < 11 → ∀ i, 11 ≤ i → bit (near a) i = false
theorem dg_bc {near : Nat → Int32} (hB : Bd near) {a : Nat} (ha : a < 11) : f_bc (near a) = nI (dg (gN near) a) := by
  rw [bc_lt (n := 11) (by decide) (hB a ha), cf_su]
  congr 1
  refine su_congr 11 (fun i hi => ?_)
  show ig (bit (near a) i) = ig (decide (a < 11) && (decide (i < 11) && bit (near a) i))
  rw [decide_eq_true ha, decide_eq_true hi, Bool.true_and, Bool.true_and]
theorem dg_le (g : Nat → Nat → Bool) (a : Nat) : dg g a ≤ 11 := by
  have h := su_mono (f := fun b => ig (g a b)) (g := fun _ => 1) 11 (fun i _ => ig_le _)
  have e : su (fun _ => 1) 11 = 11 := by decide
  rw [e] at h
  exact h
theorem nI_addn (a : Nat) : ∀ b, nI a + nI b = nI (a + b)
  | 0 => Int32.add_zero _
  | b + 1 => by rw [nI_succ, ← Int32.add_assoc, nI_addn a b, nI_add1]; rfl
theorem passes7_eq {K : Int32 → Int32 → Option TW} {near : Nat → Int32} (hB : Bd near) : ∀ (n k : Nat), k + n = 11 → F_passesG_L7 K near n k (nI (su (fun i => ig (decide (0 < dg (gN near) i))) k)) (nI (su (fun i => dg (gN near) i) k)) = K (nI (su (fun i => ig (decide (0 < dg (gN near) i))) 11)) (nI (su (fun i => dg (gN near) i) 11))
  | 0, k, hk => by
    have : k = 11 := by omega
    subst this
    rw [F_passesG_L7]
  | n + 1, k, hk => by
    rw [F_passesG_L7, degree_eq (by omega), Option.bind_some, Option.bind_some, dg_bc hB (by omega)]
    have e := passes7_eq (K := K) hB n (k + 1) (by omega)
    rw [← e]
    show F_passesG_L7 K near n (k + 1) (nI (su (fun i => ig (decide (0 < dg (gN near) i))) k) + (if nI (dg (gN near) k) ≤ 0 then (0 : Int32) else (1 : Int32))) (nI (su (fun i => dg (gN near) i) k) + nI (dg (gN near) k)) = F_passesG_L7 K near n (k + 1) (nI (su (fun i => ig (decide (0 < dg (gN near) i))) k + ig (decide (0 < dg (gN near) k)))) (nI (su (fun i => dg (gN near) i) k + dg (gN near) k))
    have hd := dg_le (gN near) k
    have e1 : (if nI (dg (gN near) k) ≤ 0 then (0 : Int32) else (1 : Int32)) = nI (ig (decide (0 < dg (gN near) k))) := by
      by_cases c : 0 < dg (gN near) k
      · rw [decide_eq_true c, if_neg (fun h9 => by
          have h9 : nI (dg (gN near) k) ≤ nI 0 := h9
          rw [nLe (by omega) (by decide)] at h9; omega)]
        rfl
      · rw [decide_eq_false c, if_pos (by rw [show dg (gN near) k = 0 by omega]; decide)]
        rfl
    rw [e1, nI_addn, nI_addn]
theorem half_ : ∀ y : Nat, y < 122 → nI y / 2 = nI (y / 2) := by decide +kernel
theorem lim_ : ∀ x : Nat, x < 12 → ∀ h : Nat, h < 61 → (nI h ≤ 3 * nI x - 6 ↔ h + 6 ≤ 3 * x) := by decide +kernel
theorem passes_sem (bl cl : Int32) (dep en_ re hi al op near : Nat → Int32) (hh : ∀ i, i < 121 → hi i ≤ 10) (hW : Wb near) (hB : Bd near) : Ok (F_passesG bl cl dep en_ re hi al op near) (fun R => (z01 R.1 ∧ ∀ i, i < 121 → R.2.2.2.2.2.2.1 i ≤ 10) ∧ (R.1 = 1 ↔ ZZ (aj near))) := by
  unfold F_passesG
  refine ok_eq (show F_passesG_L7 _ near 11 0 0 0 = _ from passes7_eq hB 11 0 rfl) ?_
  have hg := gN_Gb hW
  have hS : Spp (fun i => decide (0 < dg (gN near) i)) (gN near) := fun a b q => decide_eq_true (by
    have : su (fun i => if i = b then 1 else 0) 11 ≤ dg (gN near) a := su_mono 11 (fun i _ => by
      show (if i = b then 1 else 0) ≤ ig (gN near a i)
      by_cases c : i = b
      · rw [if_pos c, c, ig_t q]; exact Nat.le_refl _
      · rw [if_neg c]; exact Nat.zero_le _)
    rw [su_one 11 (hg.lt q).2] at this
    omega)
  have hn : su (fun i => ig (decide (0 < dg (gN near) i))) 11 = ns (fun i => decide (0 < dg (gN near) i)) := rfl
  have hn11 : ns (fun i => decide (0 < dg (gN near) i)) ≤ 11 := by
    have h := su_mono (f := fun i => ig (decide (0 < dg (gN near) i))) (g := fun _ => 1) 11 (fun i _ => ig_le _)
    have e : su (fun _ => 1) 11 = 11 := by decide
    rw [e] at h
    exact h
  have he : su (fun i => dg (gN near) i) 11 = en (gN near) := rfl
  have hle := en_le hg hS
  have hen : en (gN near) < 122 := by
    have h := su_mono (f := fun i => dg (gN near) i) (g := fun _ => 11) 11 (fun i _ => dg_le _ _)
    have e : su (fun _ => 11) 11 = 121 := by decide
    rw [e, he] at h
    omega
  rw [hn, he, half_ _ hen]
  generalize hk : ns (fun i => decide (0 < dg (gN near) i)) = k at *
  refine ok_if (fun c1 => ?_) (fun c1 => ?_)
  · have c1 : nI 9 ≤ nI (en (gN near) / 2) := c1
    rw [nLe (by decide) (by omega)] at c1
    refine ok_if (fun c2 => ?_) (fun c2 => ?_)
    · rw [lim_ k (by omega) _ (by omega)] at c2
      have hC : Cap near := fun B T S h1 h2 => by
        have := en_inj B (gN near) T S hg (fun n hn => gN_iff.mpr (h1 n hn)) h2
        omega
      unfold F_forgetG
      rw [Option.bind_some]
      refine pass_L (P := fun R => (z01 R.1 ∧ ∀ i, i < 121 → R.2.2.2.2.2.2.1 i ≤ 10) ∧ (R.1 = 1 ↔ ZZ (aj near))) hW hC (fun bl dep en re hi al op hz hi' => ?_) (fun bl dep en re hi al op hz hi' => ?_) 11 0 (fun _ => False) (fun _ => 0) (fun _ => 0) 0 (fun _ => 0) (fun _ => 0) _ _ _ _ _ _ rfl ?_ (fun w hw => absurd hw (Nat.not_lt_zero _)) (fun w hw => hw.elim)
      · rw [if_neg (by decide)]
        exact ok_some ⟨⟨Or.inl rfl, hi'⟩, fun q => absurd (show (0 : Int32) = 1 from q) (by decide), fun q => absurd q hz⟩
      · rw [if_pos rfl]
        exact ok_some ⟨⟨Or.inr rfl, hi'⟩, fun _ => hz, fun _ => rfl⟩
      · refine ⟨⟨fun w hw => hw.elim, fun _ _ => rfl, fun w hw => absurd hw (Nat.lt_irrefl _), fun u w hu => hu.elim⟩, ⟨fun n hn => absurd hn (Nat.not_lt_zero _), fun n m hn => absurd hn (Nat.not_lt_zero _)⟩, by decide, ?_, fun w hw => ⟨fun q => q.elim, fun _ => ?_⟩, hh, ?_, ?_⟩
        · intro d hd n
          have e : f_fill 11 0 en_ d = 0 := by unfold f_fill; rw [if_pos hd]
          constructor
          · intro q
            have q : bit (f_fill 11 0 en_ d) n = true := q
            rw [e, bit_zero] at q
            cases q
          · intro q; exact absurd q.1 (Nat.not_lt_zero _)
        · show f_fill 11 (-1) dep w = -1
          unfold f_fill; rw [if_pos hw]
        · exact fun n hn => absurd hn (Nat.not_lt_zero _)
        · exact fun x _ n hn => absurd hn (Nat.not_lt_zero _)
    · rw [lim_ k (by omega) _ (by omega)] at c2
      refine ok_some ⟨⟨Or.inl rfl, hh⟩, fun q => absurd (show (0 : Int32) = 1 from q) (by decide), fun q => ?_⟩
      exfalso
      by_cases k3 : 3 ≤ k
      · have := euler (k - 3) _ (gN near) hg hS (by omega) (gN_ZZ.mpr q)
        omega
      · have k2 : k ≤ 2 := by omega
        have : (k - 1) * k ≤ 1 * 2 := Nat.mul_le_mul (by omega) k2
        omega
  · have c1 : ¬ nI 9 ≤ nI (en (gN near) / 2) := c1
    rw [nLe (by decide) (by omega)] at c1
    exact ok_some ⟨⟨Or.inr rfl, hh⟩, fun _ => gN_ZZ.mp (few _ _ (gN near) hg hS hk (by omega)), fun _ => rfl⟩
