def WI (bl : Int32) (dep hi : Nat → Int32) : Prop := (∃ n : Nat, n ≤ 27 ∧ bl = nI n) ∧ (∀ i, i < 11 → dep i = -1 ∨ ∃ d, d < 11 ∧ dep i = nI d) ∧ (∀ i, i < 121 → hi i ≤ 10)
theorem newBL_tot {n e : Nat} (hn : n ≤ 27) (he : e < 11) (cl : Int32) (en al op : Nat → Int32) : ∃ R, F_newBackLineG (nI n) cl en al op (nI e) = some R ∧ ∃ m : Nat, m ≤ 27 ∧ R.2.1 = nI m := by
  unfold F_newBackLineG
  by_cases h : n < 27
  · rw [if_pos (show nI n < 27 from (nLt (by omega) (by decide)).mpr h), if_pos (inb_nI h (by decide)), if_pos (inb_nI he (by decide))]
    exact ⟨_, rfl, n + 1, by omega, nI_add1 n⟩
  · rw [if_neg (show ¬ nI n < 27 from fun h9 => h ((nLt (by omega) (by decide)).mp h9))]
    exact ⟨_, rfl, n, hn, rfl⟩
theorem highest_L {en : Nat → Int32} {f : Int32} {d : Nat} (hd : d < 11) : ∀ (n j : Nat), j ≤ d → d < j + n → ∃ r : Nat, r ≤ d ∧ F_highestEndG_L2 (fun _ => some (nI d)) en f (nI d) n (nI j) = some (nI r)
  | 0, j, h1, h2 => by omega
  | n + 1, j, h1, h2 => by
    rw [F_highestEndG_L2]
    by_cases h : d ≤ j
    · rw [if_pos ((nLe (by omega) (by omega)).mpr h)]
      exact ⟨d, Nat.le_refl _, rfl⟩
    · rw [if_neg (fun h9 => h ((nLe (by omega) (by omega)).mp h9)), if_pos (inb_nI (by omega) (by decide))]
      by_cases c : f &&& en (Int32.toNatClampNeg (nI j)) = 0
      · rw [if_pos c, nI_add1]
        exact highest_L hd n (j + 1) (by omega) (by omega)
      · rw [if_neg c]
        exact ⟨j, h1, rfl⟩
theorem highest_tot {en : Nat → Int32} {f : Int32} {d : Nat} (hd : d < 11) : ∃ r : Nat, r ≤ d ∧ F_highestEndG en f (nI d) = some (nI r) := highest_L hd 64 0 (Nat.zero_le _) (by omega)
theorem below_L {K : Int32 → Int32 → Option Int32} {en : Nat → Int32} {v : Int32} (hv : v ≤ 10) : ∀ (n j : Nat) (acc : Int32), j ≤ 11 → 11 < j + n → ∃ r w, F_endingBelowG_L5 K en v n acc (nI j) = K r w
  | 0, j, acc, h1, h2 => by omega
  | n + 1, j, acc, h1, h2 => by
    rw [F_endingBelowG_L5]
    by_cases h : v < nI j
    · rw [if_pos h]; exact ⟨_, _, rfl⟩
    · have hj : j < 11 := by
        rw [Int32.lt_iff_toInt_lt, nI_toInt (by omega)] at h
        rw [Int32.le_iff_toInt_le, show (10 : Int32).toInt = 10 by decide] at hv
        omega
      rw [if_neg h, if_pos (inb_nI hj (by decide)), nI_add1]
      exact below_L hv n (j + 1) _ (by omega) (by omega)
theorem below_tot {en : Nat → Int32} {v f : Int32} (hv : v ≤ 10) : ∃ r, F_endingBelowG en v f = some r := by
  obtain ⟨r, w, e⟩ := below_L (K := fun a _ => some a) (en := en) hv 64 0 f (by omega) (by omega)
  exact ⟨r, e⟩
theorem part8_L {K : Int32 → Int32 → Int32 → Option (Int32 × (Nat → Int32) × (Nat → Int32))} {n : Nat} (hn : n ≤ 27) {al op : Nat → Int32} {v1 v2 : Int32} : ∀ (m j : Nat) (a b : Int32), j ≤ n → n < j + m → ∃ r s w, F_partSidesG_L8 K (nI n) al op v1 v2 m a b (nI j) = K r s w
  | 0, j, a, b, h1, h2 => by omega
  | m + 1, j, a, b, h1, h2 => by
    rw [F_partSidesG_L8]
    by_cases h : n ≤ j
    · rw [if_pos ((nLe (by omega) (by omega)).mpr h)]; exact ⟨_, _, _, rfl⟩
    · rw [if_neg (fun h9 => h ((nLe (by omega) (by omega)).mp h9)), if_pos (inb_nI (by omega) (by decide))]
      have s1 : ∃ q : Int32 × Int32, (if v1 &&& (1 : Int32) <<< (nI j &&& 31) = 0 then some (a, b) else some (a ||| al (Int32.toNatClampNeg (nI j)), b ||| op (Int32.toNatClampNeg (nI j)))) = some q := by
        by_cases c : v1 &&& (1 : Int32) <<< (nI j &&& 31) = 0
        · exact ⟨_, if_pos c⟩
        · exact ⟨_, if_neg c⟩
      obtain ⟨q, e⟩ := s1
      rw [e, Option.bind_some]
      have s2 : ∃ q2 : Int32 × Int32, (if v2 &&& (1 : Int32) <<< (nI j &&& 31) = 0 then some (q.1, q.2) else some (q.1 ||| op (Int32.toNatClampNeg (nI j)), q.2 ||| al (Int32.toNatClampNeg (nI j)))) = some q2 := by
        by_cases c : v2 &&& (1 : Int32) <<< (nI j &&& 31) = 0
        · exact ⟨_, if_pos c⟩
        · exact ⟨_, if_neg c⟩
      obtain ⟨q2, e2⟩ := s2
      rw [if_pos (inb_nI (show j < 27 by omega) (by decide)), e2, Option.bind_some, nI_add1]
      exact part8_L hn m (j + 1) _ _ (by omega) (by omega)
theorem part102_L {K : Int32 → (Nat → Int32) → (Nat → Int32) → Option (Int32 × (Nat → Int32) × (Nat → Int32))} {n : Nat} (hn : n ≤ 27) {s t : Int32} : ∀ (m j : Nat) (a b : Nat → Int32), j ≤ n → n < j + m → ∃ w x y, F_partSidesG_L102 K (nI n) s t m (nI j) a b = K w x y
  | 0, j, a, b, h1, h2 => by omega
  | m + 1, j, a, b, h1, h2 => by
    rw [F_partSidesG_L102]
    by_cases h : n ≤ j
    · rw [if_pos ((nLe (by omega) (by omega)).mpr h)]; exact ⟨_, _, _, rfl⟩
    · rw [if_neg (fun h9 => h ((nLe (by omega) (by omega)).mp h9)), if_pos (inb_nI (show j < 27 by omega) (by decide)), if_pos (inb_nI (show j < 27 by omega) (by decide))]
      have s1 : ∃ q : (Nat → Int32) × (Nat → Int32), (if s &&& (1 : Int32) <<< (nI j &&& 31) = 0 then (if t &&& (1 : Int32) <<< (nI j &&& 31) = 0 then some (a, b) else some (upd a (Int32.toNatClampNeg (nI j)) t, upd b (Int32.toNatClampNeg (nI j)) s)) else some (upd a (Int32.toNatClampNeg (nI j)) s, upd b (Int32.toNatClampNeg (nI j)) t)) = some q := by
        by_cases c : s &&& (1 : Int32) <<< (nI j &&& 31) = 0
        · rw [if_pos c]
          by_cases c2 : t &&& (1 : Int32) <<< (nI j &&& 31) = 0
          · exact ⟨_, if_pos c2⟩
          · exact ⟨_, if_neg c2⟩
        · exact ⟨_, if_neg c⟩
      obtain ⟨q, e⟩ := s1
      rw [e, Option.bind_some, nI_add1]
      exact part102_L hn m (j + 1) _ _ (by omega) (by omega)
theorem part_tot {n : Nat} (hn : n ≤ 27) (cl : Int32) (al op : Nat → Int32) (v1 v2 : Int32) : ∃ R, F_partSidesG (nI n) cl al op v1 v2 = some R := by
  unfold F_partSidesG
  obtain ⟨r, s, w, e⟩ := part8_L (K := fun v3_8 v4_8 v5_8 => ((fun (j_99_91 : Int32) => (F_partSidesG_L102 (fun v5_102 wo_alike_102 wo_opposed_102 => some (j_99_91, wo_alike_102, wo_opposed_102)) (nI n) v3_8 v4_8 64 ((0 : Int32)) al op)) (if (v3_8 &&& v4_8) = 0 then (cl) else ((1 : Int32))))) hn (al := al) (op := op) (v1 := v1) (v2 := v2) 64 0 0 0 (Nat.zero_le _) (by omega)
  obtain ⟨w2, x, y, e2⟩ := part102_L (K := fun _ a b => some ((if (r &&& s) = 0 then (cl) else ((1 : Int32))), a, b)) hn (s := r) (t := s) 64 0 al op (Nat.zero_le _) (by omega)
  exact ⟨_, e.trans e2⟩
theorem nI_row {d j : Nat} : (nI d * 11) + nI j = nI (d * 11 + j) := by
  rw [show (11 : Int32) = nI 11 from rfl]
  unfold nI
  rw [← Int32.ofNat_mul, ← Int32.ofNat_add]
theorem comp_L {K : Int32 → Int32 → (Nat → Int32) → (Nat → Int32) → Option (Int32 × (Nat → Int32) × (Nat → Int32) × (Nat → Int32) × (Nat → Int32))} {n d l : Nat} (hn : n ≤ 27) (hd : d < 11) (hl : l < 11) {en re hi : Nat → Int32} {f r : Int32} (hr : r ≤ 10) (hh : ∀ i, i < 121 → hi i ≤ 10) : ∀ (m j : Nat) (cl : Int32) (al op : Nat → Int32), j ≤ l → l < j + m → ∃ w x y z, F_compareG_L17 K (nI n) en re hi f (nI d) (nI l) r m (nI j) cl al op = K w x y z
  | 0, j, cl, al, op, h1, h2 => by omega
  | m + 1, j, cl, al, op, h1, h2 => by
    rw [F_compareG_L17]
    by_cases h : l ≤ j
    · rw [if_pos ((nLe (by omega) (by omega)).mpr h)]; exact ⟨_, _, _, _, rfl⟩
    · rw [if_neg (fun h9 => h ((nLe (by omega) (by omega)).mp h9)), nI_row, if_pos (inb_nI (by omega) (by decide)), nI_clamp (by omega)]
      obtain ⟨p, e⟩ := below_tot (en := en) (v := hi (d * 11 + j)) (f := f) (hh _ (by omega))
      obtain ⟨q, e2⟩ := below_tot (en := en) (v := r) (f := re (d * 11 + j)) hr
      rw [e, Option.bind_some, e2, Option.bind_some, nI_add1]
      by_cases c : p ||| q = 0
      · rw [if_pos c]; exact comp_L hn hd hl hr hh m (j + 1) _ _ _ (by omega) (by omega)
      · rw [if_neg c]
        obtain ⟨R, e3⟩ := part_tot hn cl al op p q
        rw [e3, Option.bind_some]
        exact comp_L hn hd hl hr hh m (j + 1) _ _ _ (by omega) (by omega)
theorem comp_tot {n d l : Nat} (hn : n ≤ 27) (hd : d < 11) (hl : l < 11) (cl : Int32) (en re hi al op : Nat → Int32) (f : Int32) (hh : ∀ i, i < 121 → hi i ≤ 10) : ∃ R, F_compareG (nI n) cl en re hi al op f (nI d) (nI l) = some R ∧ ∀ i, i < 121 → R.2.2.1 i ≤ 10 := by
  unfold F_compareG
  obtain ⟨r, hr, e⟩ := highest_tot (en := en) (f := f) hd
  have hr10 : nI r ≤ 10 := (nLe (b := 10) (by omega) (by decide)).mpr (by omega)
  rw [e, Option.bind_some, nI_row]
  obtain ⟨w, x, y, z, e2⟩ := comp_L (K := fun v6_17 wo_clash_17 wo_alike_17 wo_opposed_17 => (if inb (nI (d * 11 + l)) 121 = true then some (wo_clash_17, upd re (Int32.toNatClampNeg (nI (d * 11 + l))) f, upd hi (Int32.toNatClampNeg (nI (d * 11 + l))) (nI r), wo_alike_17, wo_opposed_17) else none)) hn hd hl (en := en) (re := re) (f := f) hr10 hh 64 0 cl al op (Nat.zero_le _) (by omega)
  have e3 := e2.trans (if_pos (inb_nI (show d * 11 + l < 121 by omega) (by decide)))
  refine ⟨_, e3, fun i hi2 => ?_⟩
  show upd hi (Int32.toNatClampNeg (nI (d * 11 + l))) (nI r) i ≤ 10
  rw [nI_clamp (by omega)]
  by_cases c : i = d * 11 + l
  · rw [c, pk_us]; exact hr10
  · rw [pk_un c]; exact hh i hi2
theorem neigh_eq {near : Nat → Int32} {a : Nat} (ha : a < 11) : F_neighboursG near (nI a) = some (near a) := by
  unfold F_neighboursG
  rw [if_pos (inb_nI ha (by decide)), nI_clamp (by omega)]
theorem walk_L {T : Type} {K : Int32 → Int32 → Int32 → Int32 → (Nat → Int32) → (Nat → Int32) → (Nat → Int32) → (Nat → Int32) → (Nat → Int32) → (Nat → Int32) → Option (Int32 × Int32 × Int32 × (Nat → Int32) × (Nat → Int32) × (Nat → Int32) × (Nat → Int32) × (Nat → Int32) × (Nat → Int32))} {near : Nat → Int32} {a d : Nat} (ha : a < 11) (hd : d < 11) {v3 : Int32}
    {rec_ : Int32 → Int32 → (Nat → Int32) → (Nat → Int32) → (Nat → Int32) → (Nat → Int32) → (Nat → Int32) → (Nat → Int32) → (Nat → Int32) → Int32 → Int32 → Int32 → Option (Int32 × Int32 × Int32 × (Nat → Int32) × (Nat → Int32) × (Nat → Int32) × (Nat → Int32) × (Nat → Int32) × (Nat → Int32))}
    (hrec : ∀ (bl cl : Int32) (dep en re hi al op : Nat → Int32) (b : Nat) (v : Int32), b < 11 → WI bl dep hi → ∃ R, rec_ bl cl dep en re hi al op near (nI b) v (nI (d + 1)) = some R ∧ WI R.2.1 R.2.2.2.1 R.2.2.2.2.2.2.1)
    {P : (Int32 × Int32 × Int32 × (Nat → Int32) × (Nat → Int32) × (Nat → Int32) × (Nat → Int32) × (Nat → Int32) × (Nat → Int32)) → Prop}
    (hK : ∀ (x y bl cl : Int32) (dep en re hi al op : Nat → Int32), WI bl dep hi → ∃ R, K x y bl cl dep en re hi al op = some R ∧ P R) :
    ∀ (n k l : Nat) (v5 bl cl : Int32) (dep en re hi al op : Nat → Int32), k + n = 11 → l ≤ k → WI bl dep hi → ∃ R, F_walkR_L26 K near (nI a) v3 (nI d) rec_ n k v5 (nI l) bl cl dep en re hi al op = some R ∧ P R
  | 0, k, l, v5, bl, cl, dep, en, re, hi, al, op, _, _, hw => by
    rw [F_walkR_L26]; exact hK _ _ _ _ _ _ _ _ _ _ hw
  | n + 1, k, l, v5, bl, cl, dep, en, re, hi, al, op, hk, hlk, hw => by
    have ih := walk_L (T := T) (K := K) (near := near) ha hd (v3 := v3) hrec hK n (k + 1)
    rw [F_walkR_L26]
    by_cases hc : cl = 0
    · rw [if_pos hc]
      by_cases h3 : nI k = v3
      · rw [if_pos h3]
        exact ih l v5 bl cl dep en re hi al op (by omega) (by omega) hw
      · rw [if_neg h3, neigh_eq ha]
        show ∃ R, ((if f_has (near a) (nI k) = 0 then _ else _) : Option _).bind _ = some R ∧ P R
        by_cases hb : f_has (near a) (nI k) = 0
        · rw [if_pos hb]
          exact ih l v5 bl cl dep en re hi al op (by omega) (by omega) hw
        · rw [if_neg hb]
          have s1 : ∃ J : Int32 × Int32 × Int32 × (Nat → Int32) × (Nat → Int32) × (Nat → Int32) × (Nat → Int32) × (Nat → Int32) × (Nat → Int32), (if dep k = -1 then (rec_ bl cl dep en re hi al op near (nI k) (nI a) (nI d + 1)).bind (fun p_85 => if inb (nI d) 11 = true then some (p_85.1 &&& (p_85.2.2.2.2.1 (Int32.toNatClampNeg (nI d)) ^^^ (-1)), p_85.2.1, p_85.2.2.1, p_85.2.2.2.1, p_85.2.2.2.2.1, p_85.2.2.2.2.2.1, p_85.2.2.2.2.2.2.1, p_85.2.2.2.2.2.2.2.1, p_85.2.2.2.2.2.2.2.2) else none) else (if nI d ≤ dep k then some (0, bl, cl, dep, en, re, hi, al, op) else (F_newBackLineG bl cl en al op (dep k)).bind (fun p_123 => some (p_123.1, p_123.2.1, p_123.2.2.1, dep, p_123.2.2.2.1, re, hi, p_123.2.2.2.2.1, p_123.2.2.2.2.2)))) = some J ∧ WI J.2.1 J.2.2.2.1 J.2.2.2.2.2.2.1 := by
            by_cases hu : dep k = -1
            · rw [if_pos hu, nI_add1]
              obtain ⟨R, e, hR⟩ := hrec bl cl dep en re hi al op k (nI a) (by omega) hw
              rw [e, Option.bind_some, if_pos (inb_nI hd (by decide))]
              exact ⟨_, rfl, hR⟩
            · rw [if_neg hu]
              by_cases hle : nI d ≤ dep k
              · rw [if_pos hle]; exact ⟨_, rfl, hw⟩
              · rw [if_neg hle]
                obtain ⟨⟨m, hm, em⟩, w2, w3⟩ := id hw
                obtain ⟨d2, hd2, e2⟩ := (w2 k (by omega)).resolve_left hu
                subst em
                rw [e2]
                obtain ⟨R, e, hR⟩ := newBL_tot hm hd2 cl en al op
                rw [e, Option.bind_some]
                exact ⟨_, rfl, hR, w2, w3⟩
          obtain ⟨J, e, hJ⟩ := s1
          rw [e, Option.bind_some]
          by_cases hz : J.1 = 0
          · rw [if_pos hz]
            exact ih l v5 _ _ _ _ _ _ _ _ (by omega) (by omega) hJ
          · rw [if_neg hz]
            obtain ⟨⟨m, hm, em⟩, w2, w3⟩ := id hJ
            obtain ⟨R, e3, hR⟩ := comp_tot hm hd (show l < 11 by omega) J.2.2.1 J.2.2.2.2.1 J.2.2.2.2.2.1 J.2.2.2.2.2.2.1 J.2.2.2.2.2.2.2.1 J.2.2.2.2.2.2.2.2 J.1 w3
            rw [← em] at e3
            rw [e3, Option.bind_some]
            have := ih (l + 1) (v5 ||| J.1) J.2.1 R.1 J.2.2.2.1 J.2.2.2.2.1 R.2.1 R.2.2.1 R.2.2.2.1 R.2.2.2.2 (by omega) (by omega) ⟨⟨m, hm, em⟩, w2, hR⟩
            rw [← nI_add1] at this
            exact this
    · rw [if_neg hc]; exact hK _ _ _ _ _ _ _ _ _ _ hw
theorem walk_tot {near : Nat → Int32} : ∀ (f d : Nat), d + f = 12 → 0 < f → ∀ (bl cl : Int32) (dep en re hi al op : Nat → Int32) (b : Nat) (v : Int32), b < 11 → WI bl dep hi → ∃ R, F_walkR f bl cl dep en re hi al op near (nI b) v (nI d) = some R ∧ WI R.2.1 R.2.2.2.1 R.2.2.2.2.2.2.1
  | 0, d, _, h0, _, _, _, _, _, _, _, _, _, _, _, _ => absurd h0 (by decide)
  | f + 1, d, hdf, _, bl, cl, dep, en, re, hi, al, op, b, v, hb, hw => by
    rw [F_walkR]
    by_cases h : d < 11
    · rw [if_pos (show nI d < 11 from (nLt (by omega) (by decide)).mpr h), if_pos (inb_nI hb (by decide)), nI_clamp (by omega)]
      refine walk_L (T := Unit) (P := fun R => WI R.2.1 R.2.2.2.1 R.2.2.2.2.2.2.1) hb h (fun bl cl dep en re hi al op b2 v2 hb2 hw2 => walk_tot f (d + 1) (by omega) (by omega) bl cl dep en re hi al op b2 v2 hb2 hw2) (fun x y bl cl dep en re hi al op hw => ⟨_, rfl, hw⟩) 11 0 0 0 bl cl _ en re hi al op rfl (Nat.le_refl _) ⟨hw.1, fun i hi2 => ?_, hw.2.2⟩
      by_cases c : i = b
      · rw [c, pk_us]; exact Or.inr ⟨d, h, rfl⟩
      · rw [pk_un c]; exact hw.2.1 i hi2
    · rw [if_neg (show ¬ nI d < 11 from fun h9 => h ((nLt (by omega) (by decide)).mp h9))]
      exact ⟨_, rfl, hw⟩
theorem passes77_L {P : (Int32 × Int32 × Int32 × (Nat → Int32) × (Nat → Int32) × (Nat → Int32) × (Nat → Int32) × (Nat → Int32) × (Nat → Int32)) → Prop} {K : Int32 → Int32 → (Nat → Int32) → (Nat → Int32) → (Nat → Int32) → (Nat → Int32) → (Nat → Int32) → (Nat → Int32) → Option (Int32 × Int32 × Int32 × (Nat → Int32) × (Nat → Int32) × (Nat → Int32) × (Nat → Int32) × (Nat → Int32) × (Nat → Int32))} {near : Nat → Int32}
    (hK : ∀ (bl cl : Int32) (dep en re hi al op : Nat → Int32), WI bl dep hi → ∃ R, K bl cl dep en re hi al op = some R ∧ P R) :
    ∀ (n k : Nat) (bl cl : Int32) (dep en re hi al op : Nat → Int32), k + n = 11 → WI bl dep hi → ∃ R, F_passesG_L77 K near n k bl cl dep en re hi al op = some R ∧ P R
  | 0, k, bl, cl, dep, en, re, hi, al, op, _, hw => by rw [F_passesG_L77]; exact hK _ _ _ _ _ _ _ _ hw
  | n + 1, k, bl, cl, dep, en, re, hi, al, op, hk, hw => by
    rw [F_passesG_L77]
    by_cases hc : cl = 0
    · rw [if_pos hc]
      by_cases hu : dep k = -1
      · rw [if_pos hu]
        obtain ⟨R, e, hR⟩ := walk_tot (near := near) 12 0 rfl (by decide) bl cl dep en re hi al op k (-1) (by omega) hw
        rw [show (0 : Int32) = nI 0 from rfl, e, Option.bind_some]
        exact passes77_L hK n (k + 1) _ _ _ _ _ _ _ _ (by omega) hR
      · rw [if_neg hu]
        exact passes77_L hK n (k + 1) _ _ _ _ _ _ _ _ (by omega) hw
    · rw [if_neg hc]; exact hK _ _ _ _ _ _ _ _ hw
theorem degree_eq {near : Nat → Int32} {a : Nat} (ha : a < 11) : F_degreeG near (nI a) = some (f_bc (near a)) := by
  unfold F_degreeG
  rw [if_pos (inb_nI ha (by decide)), nI_clamp (by omega)]
theorem passes7_L {K : Int32 → Int32 → Option (Int32 × Int32 × Int32 × (Nat → Int32) × (Nat → Int32) × (Nat → Int32) × (Nat → Int32) × (Nat → Int32) × (Nat → Int32))} {near : Nat → Int32} : ∀ (n k : Nat) (a b : Int32), k + n = 11 → ∃ x y, F_passesG_L7 K near n k a b = K x y
  | 0, k, a, b, _ => ⟨a, b, by rw [F_passesG_L7]⟩
  | n + 1, k, a, b, h => by
    rw [F_passesG_L7, degree_eq (by omega), Option.bind_some, Option.bind_some]
    exact passes7_L n (k + 1) _ _ (by omega)
theorem passes_tot (bl cl : Int32) (dep en re hi al op near : Nat → Int32) (hh : ∀ i, i < 121 → hi i ≤ 10) : ∃ R, F_passesG bl cl dep en re hi al op near = some R ∧ z01 R.1 ∧ ∀ i, i < 121 → R.2.2.2.2.2.2.1 i ≤ 10 := by
  unfold F_passesG
  obtain ⟨x, y, e⟩ := passes7_L (near := near) (K := (fun v2_7 v3_7 => (if 9 ≤ (v3_7 / 2) then (if (v3_7 / 2) ≤ ((((3 : Int32)) * v2_7) - 6) then ((F_forgetG dep en).bind (fun p_71 => (F_passesG_L77 (fun wo_backLines_77 wo_clash_77 wo_depthOf_77 wo_endingAt_77 wo_returns_77 wo_highest_77 wo_alike_77 wo_opposed_77 => (if wo_clash_77 = 0 then some ((1 : Int32), wo_backLines_77, wo_clash_77, wo_depthOf_77, wo_endingAt_77, wo_returns_77, wo_highest_77, wo_alike_77, wo_opposed_77) else some ((0 : Int32), wo_backLines_77, wo_clash_77, wo_depthOf_77, wo_endingAt_77, wo_returns_77, wo_highest_77, wo_alike_77, wo_opposed_77))) near 11 0 p_71.1 p_71.2.1 p_71.2.2.1 p_71.2.2.2 re hi al op))) else some ((0 : Int32), bl, cl, dep, en, re, hi, al, op)) else some ((1 : Int32), bl, cl, dep, en, re, hi, al, op)))) 11 0 0 0 rfl
  rw [show (0 : Int32) = (0 : Int32) from rfl, e]
  by_cases c1 : 9 ≤ (y / 2)
  · rw [if_pos c1]
    by_cases c2 : (y / 2) ≤ ((((3 : Int32)) * x) - 6)
    · rw [if_pos c2]
      unfold F_forgetG
      rw [Option.bind_some]
      refine passes77_L (P := fun R => z01 R.1 ∧ ∀ i, i < 121 → R.2.2.2.2.2.2.1 i ≤ 10) (fun bl cl dep en re hi al op hw => ?_) 11 0 _ _ _ _ _ _ _ _ rfl ⟨⟨0, by decide, rfl⟩, fun i hi2 => Or.inl ?_, hh⟩
      · by_cases c : cl = 0
        · rw [if_pos c]; exact ⟨_, rfl, Or.inr rfl, hw.2.2⟩
        · rw [if_neg c]; exact ⟨_, rfl, Or.inl rfl, hw.2.2⟩
      · show f_fill 11 (-1) dep i = -1
        unfold f_fill; rw [if_pos hi2]
    · rw [if_neg c2]; exact ⟨_, rfl, Or.inl rfl, hh⟩
  · rw [if_neg c1]; exact ⟨_, rfl, Or.inr rfl, hh⟩
