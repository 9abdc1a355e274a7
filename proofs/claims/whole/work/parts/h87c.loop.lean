abbrev TW : Type := Int32 × Int32 × Int32 × (Nat → Int32) × (Nat → Int32) × (Nat → Int32) × (Nat → Int32) × (Nat → Int32) × (Nat → Int32)
def Pth (par D : Nat → Nat) (d : Nat) (v : Int32) (w : Nat) : Prop := ∃ a, a < 11 ∧ v = nI a ∧ d = D a + 1 ∧ An par D w a
def WQ (near : Nat → Int32) (d b : Nat) (v : Int32) (V : Nat → Prop) (par D : Nat → Nat) (B : Nat) (T S : Nat → Nat) (re hi al op : Nat → Int32) (R : TW) : Prop :=
  (R.2.2.1 = 1 ∧ ¬ ZZ (aj near) ∧ WI R.2.1 R.2.2.2.1 R.2.2.2.2.2.2.1) ∨
  (R.2.2.1 = 0 ∧ ∃ (V' : Nat → Prop) (par' D' : Nat → Nat) (B' : Nat) (T' S' : Nat → Nat), R.2.1 = nI B' ∧ GS near V' par' D' B' T' S' R.2.2.2.1 R.2.2.2.2.1 R.2.2.2.2.2.2.1 R.2.2.2.2.2.2.2.1 R.2.2.2.2.2.2.2.2 ∧ Xt V par D B T S V' par' D' B' T' S' ∧ (V' b ∧ D' b = d ∧ ∀ a, v = nI a → a < 11 → par' b = a) ∧ (∀ w, V' w → ¬ V w → An par' D' b w) ∧ (∀ w, V' w → ¬ Pth par' D' d v w → Dn (aj near) V' par' D' B' T' S' R.2.2.2.2.2.2.2.1 R.2.2.2.2.2.2.2.2 w) ∧ (∀ n, B ≤ n → n < B' → An par' D' b (S' n)) ∧ (∀ n, bit R.1 n = true ↔ (B ≤ n ∧ n < B' ∧ D' (T' n) < d)) ∧ (∀ la, Cmp B' R.2.2.2.2.2.2.2.1 R.2.2.2.2.2.2.2.2 la → Cmp B al op la) ∧ ∀ i, i < d * 11 → R.2.2.2.2.2.1 i = re i ∧ R.2.2.2.2.2.2.1 i = hi i)
def LB (near : Nat → Int32) (d a : Nat) (v : Int32) (V0 : Nat → Prop) (par0 D0 : Nat → Nat) (B0 : Nat) (T0 S0 : Nat → Nat) (re0 hi0 al0 op0 : Nat → Int32) (k : Nat) (V : Nat → Prop) (par D : Nat → Nat) (B : Nat) (T S : Nat → Nat) (dep en re hi al op : Nat → Int32) : Prop :=
  GS near V par D B T S dep en hi al op ∧ Xt V0 par0 D0 B0 T0 S0 V par D B T S ∧ (V a ∧ ¬ V0 a ∧ D a = d ∧ d < 11 ∧ a < 11) ∧ ((∀ p, v = nI p → p < 11 → par a = p ∧ V p ∧ d = D p + 1) ∧ (d = 0 ∨ ∃ p, p < 11 ∧ v = nI p)) ∧ (∀ w, V w → ¬ V0 w → An par D a w) ∧ (∀ w, V w → ¬ An par D w a → Dn (aj near) V par D B T S al op w) ∧ (∀ c, c < k → aj near a c → V c) ∧ (∀ n, B0 ≤ n → n < B → An par D a (S n)) ∧ (∀ t, t < k → bk (aj near) par D t a → ∃ n, n < B ∧ T n = t ∧ S n = a) ∧ (∀ n, n < B → S n = a → T n < k) ∧ (∀ la, Cmp B al op la → Cmp B0 al0 op0 la) ∧ ∀ i, i < d * 11 → re i = re0 i ∧ hi i = hi0 i
def LT (d a : Nat) (par D : Nat → Nat) (B : Nat) (T S : Nat → Nat) (re hi al op : Nat → Int32) (l k : Nat) (ex : Nat → Prop) : Prop := l ≤ k ∧ ∃ U : Nat → Nat, (∀ j, j < l → U j < k ∧ (∀ n, bit (re (d * 11 + j)) n = true ↔ RT par D B T S a (U j) n) ∧ ∃ h, h < d ∧ hi (d * 11 + j) = nI h ∧ It (fun n => D (T n)) (fun n => bit (re (d * 11 + j)) n = true) h) ∧ (∀ u n, RT par D B T S a u n → ex u ∨ ∃ j, j < l ∧ U j = u) ∧ ∀ la, Cmp B al op la → ∀ i j, i < j → j < l → Cf (fun n => D (T n)) la (RT par D B T S a (U j)) (RT par D B T S a (U i))
theorem bad_L {P : TW → Prop} {K : Int32 → Int32 → Int32 → Int32 → (Nat → Int32) → (Nat → Int32) → (Nat → Int32) → (Nat → Int32) → (Nat → Int32) → (Nat → Int32) → Option TW} {near : Nat → Int32} {va v vd : Int32} {rec_ : Int32 → Int32 → (Nat → Int32) → (Nat → Int32) → (Nat → Int32) → (Nat → Int32) → (Nat → Int32) → (Nat → Int32) → (Nat → Int32) → Int32 → Int32 → Int32 → Option TW} {x y bl : Int32} {dep en re hi al op : Nat → Int32} (h : Ok (K x y bl 1 dep en re hi al op) P) : ∀ (n k : Nat), Ok (F_walkR_L26 K near va v vd rec_ n k x y bl 1 dep en re hi al op) P
  | 0, k => by rw [F_walkR_L26]; exact h
  | n + 1, k => by rw [F_walkR_L26, if_neg (by decide)]; exact h
theorem stepJ {P : TW → Prop} {K : Int32 → Int32 → Int32 → Int32 → (Nat → Int32) → (Nat → Int32) → (Nat → Int32) → (Nat → Int32) → (Nat → Int32) → (Nat → Int32) → Option TW} {near : Nat → Int32} (hW : Wb near) {a d : Nat} {v : Int32} {rec_ : Int32 → Int32 → (Nat → Int32) → (Nat → Int32) → (Nat → Int32) → (Nat → Int32) → (Nat → Int32) → (Nat → Int32) → (Nat → Int32) → Int32 → Int32 → Int32 → Option TW}
    {V0 : Nat → Prop} {par0 D0 : Nat → Nat} {B0 : Nat} {T0 S0 : Nat → Nat} {re0 hi0 al0 op0 : Nat → Int32}
    (hbad : ∀ (x y bl : Int32) (dep en re hi al op : Nat → Int32), ¬ ZZ (aj near) → WI bl dep hi → Ok (K x y bl 1 dep en re hi al op) P) {n k l : Nat} (hk : k < 11) {acc : Int32} {V : Nat → Prop} {par D : Nat → Nat} {B : Nat} {T S : Nat → Nat} {dep en re hi al op : Nat → Int32} {f : Int32}
    (hL : LB near d a v V0 par0 D0 B0 T0 S0 re0 hi0 al0 op0 (k + 1) V par D B T S dep en re hi al op) (hT : LT d a par D B T S re hi al op l k (fun u => u = k)) (hf : ∀ n, bit f n = true ↔ RT par D B T S a k n) (hacc : ∀ n, (bit acc n = true ∨ bit f n = true) ↔ (B0 ≤ n ∧ n < B ∧ D (T n) < d))
    (hgo : ∀ (l : Nat) (acc : Int32) (re hi al op : Nat → Int32), LB near d a v V0 par0 D0 B0 T0 S0 re0 hi0 al0 op0 (k + 1) V par D B T S dep en re hi al op → LT d a par D B T S re hi al op l (k + 1) (fun _ => False) → (∀ n, bit acc n = true ↔ (B0 ≤ n ∧ n < B ∧ D (T n) < d)) → Ok (F_walkR_L26 K near (nI a) v (nI d) rec_ n (k + 1) acc (nI l) (nI B) 0 dep en re hi al op) P) :
    Ok (((if f = 0 then some (acc, nI l, nI B, (0 : Int32), dep, en, re, hi, al, op) else (F_compareG (nI B) 0 en re hi al op f (nI d) (nI l)).bind (fun p_140 => some (acc ||| f, nI l + 1, nI B, p_140.1, dep, en, p_140.2.1, p_140.2.2.1, p_140.2.2.2.1, p_140.2.2.2.2))) : Option (Int32 × Int32 × Int32 × Int32 × (Nat → Int32) × (Nat → Int32) × (Nat → Int32) × (Nat → Int32) × (Nat → Int32) × (Nat → Int32))).bind (fun j => F_walkR_L26 K near (nI a) v (nI d) rec_ n (k + 1) j.1 j.2.1 j.2.2.1 j.2.2.2.1 j.2.2.2.2.1 j.2.2.2.2.2.1 j.2.2.2.2.2.2.1 j.2.2.2.2.2.2.2.1 j.2.2.2.2.2.2.2.2.1 j.2.2.2.2.2.2.2.2.2)) P := by
  have hL' := hL
  obtain ⟨hG, hX, ⟨a1, a2, a3, a4, a5⟩, hpv, h3, h4, h5, h6, h7, h8, h10, h11⟩ := hL
  obtain ⟨hlk, U, u1, u2, u3⟩ := hT
  by_cases c : f = 0
  · rw [if_pos c, Option.bind_some]
    have f0 : ∀ n, ¬ bit f n = true := fun n => by rw [c, bit_zero]; decide
    refine hgo l acc re hi al op hL' ⟨by omega, U, fun j hj => ⟨by have := (u1 j hj).1; omega, (u1 j hj).2⟩, fun u n hr => Or.inr ?_, u3⟩ (fun n => ?_)
    · rcases u2 u n hr with e | e
      · subst e
        exact absurd ((hf n).mpr hr) (f0 n)
      · exact e
    · rw [← hacc n]
      exact ⟨Or.inl, fun q => q.resolve_right (f0 n)⟩
  · rw [if_neg c]
    have hfb : ∀ n, bit f n = true → n < B ∧ D (T n) < d := fun n hn => by
      have := (hf n).mp hn
      exact ⟨this.1, by rw [← a3]; exact this.2.1⟩
    have hne : ∃ n, bit f n = true := by
      apply Classical.byContradiction
      intro h9
      apply c
      apply bit_ext
      intro i _
      rw [bit_zero]
      cases hb : bit f i with
      | false => rfl
      | true => exact absurd ⟨i, hb⟩ h9
    obtain ⟨g1, g2, g3, g4, g5, g6, g7, g8⟩ := id hG
    have hit : ∀ j, j < l → (∀ n, bit (re (d * 11 + j)) n = true → n < B ∧ D (T n) < d) ∧ ∃ h, h < d ∧ hi (d * 11 + j) = nI h ∧ It (fun n => D (T n)) (fun n => bit (re (d * 11 + j)) n = true) h := fun j hj => by
      obtain ⟨_, q2, q3⟩ := u1 j hj
      refine ⟨fun n hn => ?_, q3⟩
      have := (q2 n).mp hn
      exact ⟨this.1, by rw [← a3]; exact this.2.1⟩
    have sol : ∀ x, Zx (aj near) (fun u w => if u < w then 1 else 0) x → ∀ j, j < l → Cf (fun n => D (T n)) (sde x par D T S) (fun n => bit f n = true) (fun n => bit (re (d * 11 + j)) n = true) := fun x hx j hj =>
      Cf.congr (cf_sde hW g1 g2 hx (w := a) (u := k) (u' := U j) (by have := (u1 j hj).1; omega)) (fun n hn => (hf n).mp hn) (fun n hn => ((u1 j hj).2.1 n).mp hn)
    obtain ⟨R, eR, ⟨⟨r1, h, r2, r3, r4⟩, r5⟩⟩ := comp_spec g3 a4 (show l < 11 by omega) g4 g7 hfb hne g6 hit
    rw [eR, Option.bind_some, Option.bind_some]
    show Ok (F_walkR_L26 K near (nI a) v (nI d) rec_ n (k + 1) (acc ||| f) (nI l + 1) (nI B) R.1 dep en R.2.1 R.2.2.1 R.2.2.2.1 R.2.2.2.2) P
    have hHI : HI R.2.2.1 := by
      intro i hi2
      rw [r3]
      by_cases c2 : i = d * 11 + l
      · rw [c2, pk_us]; exact (nLe (b := 10) (by omega) (by decide)).mpr (by omega)
      · rw [pk_un c2]; exact g6 i hi2
    rcases r5 with ⟨c0, s1, s2, s3⟩ | ⟨c1, s1⟩
    · rw [c0, nI_add1]
      refine hgo (l + 1) (acc ||| f) R.2.1 R.2.2.1 R.2.2.2.1 R.2.2.2.2 ?_ ?_ (fun n => ?_)
      · refine ⟨⟨g1, g2, g3, g4, g5, hHI, s1, fun x hx => s3 _ (g8 x hx) (fun j hj => sol x hx j hj)⟩, hX, ⟨a1, a2, a3, a4, a5⟩, hpv, h3, fun w hw hnw => ?_, h5, h6, h7, h8, fun la hla => h10 la (s2 la hla).1, fun i hi2 => ?_⟩
        · exact Dn_ext g1 g2 (Xt.rf V par D B T S) (fun la hla => (s2 la hla).1) hw (h4 w hw hnw) (fun u n hn hr => by have := hr.1; omega)
        · rw [r1, r3, pk_un (show i ≠ d * 11 + l by omega), pk_un (show i ≠ d * 11 + l by omega)]
          exact h11 i hi2
      · have Ul : (fun j => if j = l then k else U j) l = k := if_pos rfl
        have Uo : ∀ j, j < l → (fun j => if j = l then k else U j) j = U j := fun j hj => if_neg (by omega)
        refine ⟨by omega, fun j => if j = l then k else U j, fun j hj => ?_, fun u n hr => Or.inr ?_, fun la hla i j hij hj => ?_⟩
        · by_cases c2 : j = l
          · subst c2
            rw [Ul, r1, r3, pk_us, pk_us]
            exact ⟨by omega, hf, h, r2, rfl, r4⟩
          · have hj' : j < l := by omega
            rw [Uo j hj', r1, r3, pk_un (show d * 11 + j ≠ d * 11 + l by omega), pk_un (show d * 11 + j ≠ d * 11 + l by omega)]
            exact ⟨by have := (u1 j hj').1; omega, (u1 j hj').2⟩
        · rcases u2 u n hr with e | ⟨j, e1, e2⟩
          · exact ⟨l, by omega, by rw [Ul, e]⟩
          · exact ⟨j, by omega, by rw [Uo j e1, e2]⟩
        · by_cases c2 : j = l
          · subst c2
            rw [Ul, Uo i hij]
            exact Cf.congr ((s2 la hla).2 i hij) (fun n hn => (hf n).mpr hn) (fun n hn => ((u1 i hij).2.1 n).mpr hn)
          · rw [Uo i (by omega), Uo j (by omega)]
            exact u3 la (s2 la hla).1 i j hij (by omega)
      · rw [bit_or, Bool.or_eq_true]; exact hacc n
    · rw [c1]
      have hnz : ¬ ZZ (aj near) := fun ⟨x, hx⟩ => s1 _ (g8 x hx) (fun j hj => sol x hx j hj)
      have hwi := WI_of hG
      exact bad_L (hbad _ _ _ _ _ _ _ _ _ hnz ⟨hwi.1, hwi.2.1, hHI⟩) n (k + 1)
