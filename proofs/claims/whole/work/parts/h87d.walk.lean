theorem newBL_eq {B e : Nat} (hB : B < 27) (he : e < 11) (cl : Int32) (en al op : Nat → Int32) : F_newBackLineG (nI B) cl en al op (nI e) = some ((1 : Int32) <<< (nI B &&& 31), nI (B + 1), cl, upd en e (en e ||| (1 : Int32) <<< (nI B &&& 31)), upd al B ((1 : Int32) <<< (nI B &&& 31)), upd op B 0) := by
  unfold F_newBackLineG
  rw [if_pos (show nI B < 27 from (nLt (by omega) (by decide)).mpr hB), if_pos (inb_nI hB (by decide)), if_pos (inb_nI he (by decide)), nI_add1, nI_clamp (show B < 2 ^ 31 by omega), nI_clamp (show e < 2 ^ 31 by omega)]
theorem LT.up {d a : Nat} {par D : Nat → Nat} {B : Nat} {T S : Nat → Nat} {re hi al op : Nat → Int32} {l k : Nat} {ex : Nat → Prop} (h : LT d a par D B T S re hi al op l k ex) : LT d a par D B T S re hi al op l (k + 1) ex := by
  obtain ⟨h1, U, u1, u2, u3⟩ := h
  exact ⟨by omega, U, fun j hj => ⟨by have := (u1 j hj).1; omega, (u1 j hj).2⟩, u2, u3⟩
theorem LT.ext {ad : Nat → Nat → Prop} {d a : Nat} {V : Nat → Prop} {par D : Nat → Nat} {B : Nat} {T S : Nat → Nat} {V' : Nat → Prop} {par' D' : Nat → Nat} {B' : Nat} {T' S' : Nat → Nat} (hF : Fo ad V par D) (hB : Bl ad V par D B T S) (hx : Xt V par D B T S V' par' D' B' T' S') {re hi al op re' hi' al' op' : Nat → Int32} (ha : V a) {l k : Nat} (hrow : ∀ j, j < l → re' (d * 11 + j) = re (d * 11 + j) ∧ hi' (d * 11 + j) = hi (d * 11 + j)) (hm : ∀ la, Cmp B' al' op' la → Cmp B al op la) (hnew : ∀ u n, B ≤ n → RT par' D' B' T' S' a u n → u = k) (h : LT d a par D B T S re hi al op l k (fun _ => False)) : LT d a par' D' B' T' S' re' hi' al' op' l k (fun u => u = k) := by
  obtain ⟨h1, U, u1, u2, u3⟩ := h
  have rtU : ∀ j, j < l → ∀ n, RT par' D' B' T' S' a (U j) n → RT par D B T S a (U j) n ∧ D' (T' n) = D (T n) := fun j hj n hr => by
    rcases Nat.lt_or_ge n B with q | q
    · exact ⟨(RT_ext hF hB hx ha q).mp hr, E_ext hF hB hx q⟩
    · have := hnew _ n q hr
      have := (u1 j hj).1
      omega
  refine ⟨h1, U, fun j hj => ?_, fun u n hr => ?_, fun la hla i j hij hj => ?_⟩
  · obtain ⟨q1, q2, h, q3, q4, q5⟩ := u1 j hj
    rw [(hrow j hj).1, (hrow j hj).2]
    refine ⟨q1, fun n => ⟨fun hn => ?_, fun hn => (q2 n).mpr (rtU j hj n hn).1⟩, h, q3, q4, fun n hn => ?_, ?_⟩
    · have := (q2 n).mp hn
      exact (RT_ext hF hB hx ha this.1).mpr this
    · have := (q2 n).mp hn
      show h ≤ D' (T' n)
      rw [E_ext hF hB hx this.1]; exact q5.1 n hn
    · obtain ⟨n, hn, e⟩ := q5.2
      have := (q2 n).mp hn
      refine ⟨n, hn, ?_⟩
      show D' (T' n) = h
      rw [E_ext hF hB hx this.1]; exact e
  · rcases Nat.lt_or_ge n B with q | q
    · rcases u2 u n ((RT_ext hF hB hx ha q).mp hr) with e | e
      · exact e.elim
      · exact Or.inr e
    · exact Or.inl (hnew u n q hr)
  · exact Cf.mono (u3 la (hm la hla) i j hij hj) (fun n hn => rtU j hj n hn) (fun n hn => rtU i (by omega) n hn)
theorem stepB {P : TW → Prop} {K : Int32 → Int32 → Int32 → Int32 → (Nat → Int32) → (Nat → Int32) → (Nat → Int32) → (Nat → Int32) → (Nat → Int32) → (Nat → Int32) → Option TW} {near : Nat → Int32} {a d : Nat} (hd : d < 11) {v : Int32} {rec_ : Int32 → Int32 → (Nat → Int32) → (Nat → Int32) → (Nat → Int32) → (Nat → Int32) → (Nat → Int32) → (Nat → Int32) → (Nat → Int32) → Int32 → Int32 → Int32 → Option TW}
    (hbad : ∀ (x y bl : Int32) (dep en re hi al op : Nat → Int32), ¬ ZZ (aj near) → WI bl dep hi → Ok (K x y bl 1 dep en re hi al op) P) {n k l : Nat} (hl : l < 11) {acc bl : Int32} {dep en re hi al op : Nat → Int32} {f : Int32} (hz : ¬ ZZ (aj near)) (hw : WI bl dep hi) :
    Ok (((if f = 0 then some (acc, nI l, bl, (1 : Int32), dep, en, re, hi, al, op) else (F_compareG bl 1 en re hi al op f (nI d) (nI l)).bind (fun p_140 => some (acc ||| f, nI l + 1, bl, p_140.1, dep, en, p_140.2.1, p_140.2.2.1, p_140.2.2.2.1, p_140.2.2.2.2))) : Option (Int32 × Int32 × Int32 × Int32 × (Nat → Int32) × (Nat → Int32) × (Nat → Int32) × (Nat → Int32) × (Nat → Int32) × (Nat → Int32))).bind (fun j => F_walkR_L26 K near (nI a) v (nI d) rec_ n (k + 1) j.1 j.2.1 j.2.2.1 j.2.2.2.1 j.2.2.2.2.1 j.2.2.2.2.2.1 j.2.2.2.2.2.2.1 j.2.2.2.2.2.2.2.1 j.2.2.2.2.2.2.2.2.1 j.2.2.2.2.2.2.2.2.2)) P := by
  by_cases c : f = 0
  · rw [if_pos c, Option.bind_some]
    exact bad_L (hbad _ _ _ _ _ _ _ _ _ hz hw) n (k + 1)
  · rw [if_neg c]
    obtain ⟨⟨m, hm, em⟩, w2, w3⟩ := id hw
    subst em
    obtain ⟨R, eR, r1, r2⟩ := cmpB hm hd hl en re hi al op f w3
    rw [eR, Option.bind_some, Option.bind_some]
    show Ok (F_walkR_L26 K near (nI a) v (nI d) rec_ n (k + 1) (acc ||| f) (nI l + 1) (nI m) R.1 dep en R.2.1 R.2.2.1 R.2.2.2.1 R.2.2.2.2) P
    rw [r1]
    exact bad_L (hbad _ _ _ _ _ _ _ _ _ hz ⟨⟨m, hm, rfl⟩, w2, r2⟩) n (k + 1)
theorem walk_LI {P : TW → Prop} {K : Int32 → Int32 → Int32 → Int32 → (Nat → Int32) → (Nat → Int32) → (Nat → Int32) → (Nat → Int32) → (Nat → Int32) → (Nat → Int32) → Option TW} {near : Nat → Int32} (hW : Wb near) (hC : Cap near) {a d : Nat} {v : Int32} {rec_ : Int32 → Int32 → (Nat → Int32) → (Nat → Int32) → (Nat → Int32) → (Nat → Int32) → (Nat → Int32) → (Nat → Int32) → (Nat → Int32) → Int32 → Int32 → Int32 → Option TW}
    (hrec : ∀ (V : Nat → Prop) (par D : Nat → Nat) (B : Nat) (T S : Nat → Nat) (dep en re hi al op : Nat → Int32) (b : Nat), GS near V par D B T S dep en hi al op → b < 11 → ¬ V b → V a → D a = d → aj near a b → (∀ w, V w → ¬ An par D w a → Dn (aj near) V par D B T S al op w) → Ok (rec_ (nI B) 0 dep en re hi al op near (nI b) (nI a) (nI (d + 1))) (fun R => WQ near (d + 1) b (nI a) V par D B T S re hi al op R))
    {V0 : Nat → Prop} {par0 D0 : Nat → Nat} {B0 : Nat} {T0 S0 : Nat → Nat} {re0 hi0 al0 op0 : Nat → Int32}
    (hbad : ∀ (x y bl : Int32) (dep en re hi al op : Nat → Int32), ¬ ZZ (aj near) → WI bl dep hi → Ok (K x y bl 1 dep en re hi al op) P)
    (hgood : ∀ (l : Nat) (acc : Int32) (V : Nat → Prop) (par D : Nat → Nat) (B : Nat) (T S : Nat → Nat) (dep en re hi al op : Nat → Int32), LB near d a v V0 par0 D0 B0 T0 S0 re0 hi0 al0 op0 11 V par D B T S dep en re hi al op → LT d a par D B T S re hi al op l 11 (fun _ => False) → (∀ n, bit acc n = true ↔ (B0 ≤ n ∧ n < B ∧ D (T n) < d)) → Ok (K acc (nI l) (nI B) 0 dep en re hi al op) P) :
    ∀ (n k l : Nat) (acc : Int32) (V : Nat → Prop) (par D : Nat → Nat) (B : Nat) (T S : Nat → Nat) (dep en re hi al op : Nat → Int32), k + n = 11 → LB near d a v V0 par0 D0 B0 T0 S0 re0 hi0 al0 op0 k V par D B T S dep en re hi al op → LT d a par D B T S re hi al op l k (fun _ => False) → (∀ n, bit acc n = true ↔ (B0 ≤ n ∧ n < B ∧ D (T n) < d)) → Ok (F_walkR_L26 K near (nI a) v (nI d) rec_ n k acc (nI l) (nI B) 0 dep en re hi al op) P
  | 0, k, l, acc, V, par, D, B, T, S, dep, en, re, hi, al, op, hk, hL, hT, hacc => by
    have : k = 11 := by omega
    subst this
    rw [F_walkR_L26]
    exact hgood l acc V par D B T S dep en re hi al op hL hT hacc
  | n + 1, k, l, acc, V, par, D, B, T, S, dep, en, re, hi, al, op, hk, hL, hT, hacc => by
    have ih := walk_LI hW hC hrec hbad hgood n (k + 1)
    have hk11 : k < 11 := by omega
    obtain ⟨hG, hX, ⟨a1, a2, a3, a4, a5⟩, hpv, h3, h4, h5, h6, h7, h8, h10, h11⟩ := id hL
    obtain ⟨g1, g2, g3, g4, g5, g6, g7, g8⟩ := id hG
    have hFR := g1.fr hW
    have skip : (aj near a k → V k) → (bk (aj near) par D k a → False) → Ok (F_walkR_L26 K near (nI a) v (nI d) rec_ n (k + 1) acc (nI l) (nI B) 0 dep en re hi al op) P := by
      intro s1 s2
      refine ih l acc V par D B T S dep en re hi al op (by omega) ⟨hG, hX, ⟨a1, a2, a3, a4, a5⟩, hpv, h3, h4, fun c hc hcc => ?_, h6, fun t ht hb => ?_, fun n hn he => by have := h8 n hn he; omega, h10, h11⟩ hT.up hacc
      · by_cases e : c = k
        · subst e; exact s1 hcc
        · exact h5 c (by omega) hcc
      · by_cases e : t = k
        · subst e; exact (s2 hb).elim
        · exact h7 t (by omega) hb
    rw [F_walkR_L26, if_pos rfl]
    by_cases hv : nI k = v
    · rw [if_pos hv]
      obtain ⟨p1, p2, p3⟩ := hpv.1 k hv.symm hk11
      exact skip (fun _ => p2) (fun hb => by have := hb.2.2; omega)
    · rw [if_neg hv, neigh_eq a5]
      show Ok (((if f_has (near a) (nI k) = 0 then _ else _) : Option _).bind _) P
      by_cases hb : f_has (near a) (nI k) = 0
      · rw [if_pos hb]
        rw [has0_iff (by omega)] at hb
        have no : ¬ aj near a k := fun h9 => by rw [h9.2.2] at hb; exact absurd hb (by decide)
        exact skip (fun h9 => absurd h9 no) (fun h9 => no (hW.2 _ _ h9.1))
      · rw [if_neg hb]
        have hak : aj near a k := ⟨a5, hk11, by
          cases hx : bit (near a) k with
          | true => rfl
          | false => exact absurd ((has0_iff (by omega)).mpr hx) hb⟩
        by_cases hVk : V k
        · have edep := (g5 k hk11).1 hVk
          have hDk := (g1.1 k hVk).2
          rw [if_neg (show ¬ dep k = -1 by rw [edep]; exact nI_nm1 (by omega)), edep]
          by_cases hle : d ≤ D k
          · rw [if_pos ((nLe (by omega) (by omega)).mpr hle), Option.bind_some, if_pos rfl]
            exact skip (fun _ => hVk) (fun hb => by have := hb.2.2; omega)
          · -- a new back line
            rw [if_neg (fun h9 => hle ((nLe (by omega) (by omega)).mp h9))]
            have hAk : An par D k a := by
              rcases g1.2.2.2 k a hVk a1 (hW.2 _ _ hak) with q | q
              · exact q
              · have := q.1; omega
            have hbk : bk (aj near) par D k a := by
              refine ⟨hW.2 _ _ hak, hAk, ?_⟩
              rcases Nat.lt_or_ge (D k + 1) (D a) with q | q
              · omega
              · exfalso
                have hd0 : 0 < D a := by omega
                have e1 : k = par a := An.eq hAk (An.par hFR hd0) (by have := (hFR.2 a hd0).1; omega)
                rcases hpv.2 with q0 | ⟨p, q1, q2⟩
                · omega
                · have := (hpv.1 p q2 q1).1
                  apply hv
                  rw [q2, e1, this]
            obtain ⟨b1, b2, b3, b4⟩ := GS.back hW hC hG hbk a1 (fun n hn e => by have := h8 n hn e.2; omega)
            have hB0 : B0 ≤ B := hX.2.1
            have TB : (fun n => if n = B then k else T n) B = k := if_pos rfl
            have SB : (fun n => if n = B then a else S n) B = a := if_pos rfl
            have To : ∀ n, n < B → (fun n => if n = B then k else T n) n = T n ∧ (fun n => if n = B then a else S n) n = S n := fun n hn => ⟨if_neg (by omega), if_neg (by omega)⟩
            have bB : ∀ m, bit ((1 : Int32) <<< (nI B &&& 31)) m = true ↔ m = B := fun m => by rw [bit_shl (by omega)]; exact decide_eq_true_iff
            have rtB : ∀ w u n, B ≤ n → RT par D (B + 1) (fun n => if n = B then k else T n) (fun n => if n = B then a else S n) w u n → n = B ∧ D k < D w ∧ ((par u = w ∧ 0 < D u ∧ An par D u a) ∨ (u = k ∧ a = w)) := by
              rintro w u n hn ⟨q1, q2, q3⟩
              have e : n = B := by omega
              subst e
              rw [TB] at q2 q3
              rw [SB] at q3
              exact ⟨rfl, q2, q3⟩
            rw [newBL_eq b1 hDk, Option.bind_some, Option.bind_some]
            refine stepJ hW hbad hk11 (V := V) (par := par) (D := D) (B := B + 1) (T := fun n => if n = B then k else T n) (S := fun n => if n = B then a else S n) ⟨b2, hX.tr b3, ⟨a1, a2, a3, a4, a5⟩, hpv, h3, fun w hw hnw => ?_, fun c hc hcc => ?_, fun n h9 h8' => ?_, fun t ht hb' => ?_, fun n hn he => ?_, fun la hla => h10 la (b4 la hla), h11⟩ (LT.ext g1 g2 b3 a1 (fun j hj => ⟨rfl, rfl⟩) b4 (fun u n hn hr => ?_) hT) (fun m => ?_) (fun m => ?_) (fun l acc re hi al op q1 q2 q3 => ih l acc V par D (B + 1) _ _ dep _ re hi al op (by omega) q1 q2 q3)
            · refine Dn_ext g1 g2 b3 b4 hw (h4 w hw hnw) (fun u n hn hr => ?_)
              obtain ⟨_, _, q | q⟩ := rtB w u n hn hr
              · apply hnw
                have := An.par hFR q.2.1
                rw [q.1] at this
                exact this.tr q.2.2
              · apply hnw; rw [← q.2]; exact An.rf a
            · by_cases e : c = k
              · subst e; exact hVk
              · exact h5 c (by omega) hcc
            · by_cases e : n = B
              · subst e; rw [SB]; exact An.rf a
              · rw [(To n (by omega)).2]; exact h6 n h9 (by omega)
            · by_cases e : t = k
              · subst e; exact ⟨B, Nat.lt_succ_self B, TB, SB⟩
              · obtain ⟨n, q1, q2, q3⟩ := h7 t (by omega) hb'
                exact ⟨n, by omega, (To n q1).1.trans q2, (To n q1).2.trans q3⟩
            · by_cases e : n = B
              · subst e; rw [TB]; exact Nat.lt_succ_self k
              · rw [(To n (by omega)).1]
                rw [(To n (by omega)).2] at he
                have := h8 n (by omega) he
                omega
            · obtain ⟨_, _, q | q⟩ := rtB a u n hn hr
              · exfalso
                have e1 := (hFR.2 u q.2.1).1
                rw [q.1] at e1
                have := q.2.2.1
                omega
              · exact q.1
            · rw [bB m]
              constructor
              · intro e
                subst e
                refine ⟨Nat.lt_succ_self m, ?_, Or.inr ⟨TB.symm, SB⟩⟩
                rw [TB]; omega
              · rintro ⟨q1, q2, q3⟩
                rcases Nat.lt_or_ge m B with q | q
                · exfalso
                  rw [(To m q).1, (To m q).2] at q3
                  rcases q3 with ⟨z1, z2, z3⟩ | ⟨z1, z2⟩
                  · have e1 := (hFR.2 k z2).1
                    rw [z1] at e1; omega
                  · have := h8 m q z2
                    omega
                · omega
            · rw [hacc m, bB m]
              constructor
              · rintro (⟨q1, q2, q3⟩ | q)
                · refine ⟨q1, by omega, ?_⟩
                  rw [if_neg (by omega)]; exact q3
                · subst q
                  refine ⟨hB0, Nat.lt_succ_self m, ?_⟩
                  rw [if_pos rfl]; omega
              · rintro ⟨q1, q2, q3⟩
                by_cases e : m = B
                · exact Or.inr e
                · rw [if_neg e] at q3
                  exact Or.inl ⟨q1, by omega, q3⟩
        · -- into the depth
          have edep := (g5 k hk11).2 hVk
          rw [if_pos edep, nI_add1]
          obtain ⟨R, eR, hR⟩ := hrec V par D B T S dep en re hi al op k hG hk11 hVk a1 a3 hak h4
          rw [eR, Option.bind_some, if_pos (inb_nI a4 (by decide)), Option.bind_some]
          obtain ⟨r, bl', cl', dep', en', re', hi', al', op'⟩ := R
          rcases hR with ⟨c1, c2, c3⟩ | ⟨c0, V', par', D', B', T', S', eb, G', X', ⟨k1, k2, k3⟩, w3, w4, w6, w8, w10, w11⟩
          · have c1 : cl' = 1 := c1
            subst c1
            exact stepB a4 hbad (show l < 11 by have := hT.1; omega) c2 c3
          · have c0 : cl' = 0 := c0
            have eb : bl' = nI B' := eb
            subst c0
            subst eb
            have k3 := k3 a rfl a5
            obtain ⟨f1, f2, f3, f4, f5, f6, f7, f8⟩ := id G'
            have hFR' := f1.fr hW
            have he : ∀ w, V w → par' w = par w ∧ D' w = D w := fun w hw => (X'.1 w hw).2
            have hB0 : B0 ≤ B := hX.2.1
            have ea := (he a a1).2
            have hak' : An par' D' a k := by
              have := An.par hFR' (w := k) (by omega)
              rw [k3] at this; exact this
            have newS : ∀ n, B ≤ n → n < B' → ¬ S' n = a := fun n q1 q2 e => by
              have := (w6 n q1 q2).1
              rw [e] at this; omega
            have newRT : ∀ u n, B ≤ n → RT par' D' B' T' S' a u n → u = k := by
              rintro u n hn ⟨q1, q2, ⟨z1, z2, z3⟩ | ⟨z1, z2⟩⟩
              · refine An.eq z3 (w6 n hn q1) ?_
                have := (hFR'.2 u z2).1
                rw [z1] at this; omega
              · exact absurd z2 (newS n hn q1)
            refine stepJ hW hbad hk11 (V := V') (par := par') (D := D') (B := B') (T := T') (S := S') ⟨G', hX.tr X', ⟨(X'.1 a a1).1, a2, ea.trans a3, a4, a5⟩, ⟨fun p q1 q2 => ?_, hpv.2⟩, fun w hw hnw => ?_, fun w hw hnw => ?_, fun c hc hcc => ?_, fun n h9 h9' => ?_, fun t ht hb' => ?_, fun n hn he' => ?_, fun la hla => h10 la (w10 la hla), fun i hi2 => ?_⟩ (LT.ext g1 g2 X' a1 (fun j hj => w11 (d * 11 + j) (by have := hT.1; omega)) w10 newRT hT) (fun m => ?_) (fun m => ?_) (fun l acc re hi al op q1 q2 q3 => ih l acc V' par' D' B' T' S' dep' en' re hi al op (by omega) q1 q2 q3)
            · obtain ⟨z1, z2, z3⟩ := hpv.1 p q1 q2
              rw [(he a a1).1, (he p z2).2]
              exact ⟨z1, (X'.1 p z2).1, z3⟩
            · by_cases e : V w
              · exact (An_ext g1 he e).mpr (h3 w e hnw)
              · exact hak'.tr (w3 w hw e)
            · refine w4 w hw (fun hp => hnw ?_)
              obtain ⟨p, z1, z2, z3, z4⟩ := hp
              rw [(nI_eq_iff (by omega) (by omega)).mp z2]; exact z4
            · by_cases e : c = k
              · subst e; exact k1
              · exact (X'.1 c (h5 c (by omega) hcc)).1
            · rcases Nat.lt_or_ge n B with q | q
              · rw [(X'.2.2 n q).2]
                exact (An_ext g1 he (g2.1 n q).2).mpr (h6 n h9 q)
              · exact hak'.tr (w6 n q h9')
            · have hb2 := (bk_ext g1 he a1).mp hb'
              by_cases e : t = k
              · subst e
                exact absurd (g1.anV a1 hb2.2.1) hVk
              · obtain ⟨n, z1, z2, z3⟩ := h7 t (by omega) hb2
                exact ⟨n, Nat.lt_of_lt_of_le z1 X'.2.1, (X'.2.2 n z1).1.trans z2, (X'.2.2 n z1).2.trans z3⟩
            · rcases Nat.lt_or_ge n B with q | q
              · rw [(X'.2.2 n q).1]
                rw [(X'.2.2 n q).2] at he'
                have := h8 n q he'
                omega
              · exact absurd he' (newS n q hn)
            · have z := w11 i (by omega)
              rw [z.1, z.2]; exact h11 i hi2
            · have hr := w8 m
              have hr : bit r m = true ↔ (B ≤ m ∧ m < B' ∧ D' (T' m) < d + 1) := hr
              have hen := f4 d a4 m
              show bit (r &&& (en' (Int32.toNatClampNeg (nI d)) ^^^ (-1))) m = true ↔ _
              rw [nI_clamp (show d < 2 ^ 31 by omega), bit_and]
              constructor
              · intro q
                rw [Bool.and_eq_true] at q
                obtain ⟨z1, z2, z3⟩ := hr.mp q.1
                have hm : m < 32 := by have := f3; omega
                rw [bit_not hm] at q
                refine ⟨z2, ?_, Or.inl ⟨k3, by omega, w6 m z1 z2⟩⟩
                rcases Nat.lt_or_ge (D' (T' m)) d with q5 | q5
                · omega
                · have := hen.mpr ⟨z2, show D' (T' m) = d by omega⟩
                  rw [this] at q; exact absurd q.2 (by decide)
              · intro q
                have hm : m < 32 := by have := f3; have := q.1; omega
                have hBm : B ≤ m := by
                  rcases Nat.lt_or_ge m B with q5 | q5
                  · exfalso
                    have := (RT_ext g1 g2 X' a1 q5).mp q
                    obtain ⟨_, _, ⟨z1, z2, z3⟩ | ⟨z1, z2⟩⟩ := this
                    · exact hVk (g1.vis z2)
                    · apply hVk
                      rw [z1]; exact g1.anV (g2.1 m q5).2 (g2.1 m q5).1.2.1
                  · exact q5
                have q2 := q.2.1
                rw [ea, a3] at q2
                rw [Bool.and_eq_true, bit_not hm]
                refine ⟨hr.mpr ⟨hBm, q.1, by omega⟩, ?_⟩
                cases hb5 : bit (en' d) m with
                | false => rfl
                | true => have z := (hen.mp hb5).2; have z : D' (T' m) = d := z; omega
            · -- all that was found so far
              have hr : bit r m = true ↔ (B ≤ m ∧ m < B' ∧ D' (T' m) < d + 1) := w8 m
              have hen := f4 d a4 m
              have hen : bit (en' d) m = true ↔ (m < B' ∧ D' (T' m) = d) := hen
              show (bit acc m = true ∨ bit (r &&& (en' (Int32.toNatClampNeg (nI d)) ^^^ (-1))) m = true) ↔ _
              rw [nI_clamp (show d < 2 ^ 31 by omega), bit_and, hacc m, Bool.and_eq_true, hr]
              constructor
              · rintro (⟨z1, z2, z3⟩ | ⟨⟨z1, z2, z3⟩, z4⟩)
                · refine ⟨z1, Nat.lt_of_lt_of_le z2 X'.2.1, ?_⟩
                  rw [E_ext g1 g2 X' z2]; exact z3
                · have hm : m < 32 := by have := f3; omega
                  rw [bit_not hm] at z4
                  refine ⟨by omega, z2, ?_⟩
                  rcases Nat.lt_or_ge (D' (T' m)) d with q5 | q5
                  · exact q5
                  · rw [hen.mpr ⟨z2, by omega⟩] at z4; exact absurd z4 (by decide)
              · rintro ⟨z1, z2, z3⟩
                rcases Nat.lt_or_ge m B with q5 | q5
                · left
                  rw [E_ext g1 g2 X' q5] at z3
                  exact ⟨z1, q5, z3⟩
                · right
                  have hm : m < 32 := by have := f3; omega
                  rw [bit_not hm]
                  refine ⟨⟨q5, z2, by omega⟩, ?_⟩
                  cases hb5 : bit (en' d) m with
                  | false => rfl
                  | true => have := (hen.mp hb5).2; omega
