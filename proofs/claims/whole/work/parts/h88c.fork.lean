def Eqs (la : Nat → Nat) (P : Nat → Prop) (j : Nat) : Prop := ∀ r r', r < j → r' < j → P r → P r' → la r % 2 = la r' % 2
def CH (P : Nat → Prop) (j : Nat) (o : Int32) : Prop := (o = -1 ∧ ∀ r, r < j → ¬ P r) ∨ ∃ r, r < j ∧ o = nI r ∧ P r
def GC (M : Nat) (ld0 tu0 : Nat → Int32) (Q : (Nat → Nat) → Prop) (c : Int32) (ld tu : Nat → Int32) : Prop := UF M ld tu ∧ ((c = 1 ∧ ∀ la, Cu M ld tu la ↔ (Cu M ld0 tu0 la ∧ Q la)) ∨ (c = 0 ∧ ∀ la, Cu M ld0 tu0 la → ¬ Q la))
theorem GC.cg {M : Nat} {ld0 tu0 : Nat → Int32} {Q Q' : (Nat → Nat) → Prop} {c : Int32} {ld tu : Nat → Int32} (h : GC M ld0 tu0 Q c ld tu) (hq : ∀ la, Q la ↔ Q' la) : GC M ld0 tu0 Q' c ld tu := by
  obtain ⟨h1, h2⟩ := h
  refine ⟨h1, h2.imp (fun h3 => ⟨h3.1, fun la => by rw [← hq la]; exact h3.2 la⟩) (fun h3 => ⟨h3.1, fun la h4 h5 => h3.2 la h4 ((hq la).mpr h5)⟩)⟩
theorem GC.z {M : Nat} {ld0 tu0 : Nat → Int32} {Q : (Nat → Nat) → Prop} {c : Int32} {ld tu : Nat → Int32} (h : GC M ld0 tu0 Q c ld tu) : z01 c := by
  rcases h.2 with h | h
  · exact Or.inr h.1
  · exact Or.inl h.1
theorem Eqs.no {la : Nat → Nat} {P : Nat → Prop} {j : Nat} (h : ¬ P j) : Eqs la P j ↔ Eqs la P (j + 1) := by
  constructor
  · intro h1 r r' hr hr' p p'
    have n1 : r ≠ j := fun e => h (by rw [← e]; exact p)
    have n2 : r' ≠ j := fun e => h (by rw [← e]; exact p')
    exact h1 r r' (by omega) (by omega) p p'
  · intro h1 r r' hr hr' p p'
    exact h1 r r' (by omega) (by omega) p p'
theorem Eqs.fst {la : Nat → Nat} {P : Nat → Prop} {j : Nat} (h : ∀ r, r < j → ¬ P r) : Eqs la P j ↔ Eqs la P (j + 1) := by
  constructor
  · intro h1 r r' hr hr' p p'
    have e1 : r = j := by
      apply Classical.byContradiction
      intro c; exact h r (by omega) p
    have e2 : r' = j := by
      apply Classical.byContradiction
      intro c; exact h r' (by omega) p'
    rw [e1, e2]
  · intro h1 r r' hr hr' p p'
    exact h1 r r' (by omega) (by omega) p p'
theorem Eqs.nx {la : Nat → Nat} {P : Nat → Prop} {j r0 : Nat} (hr : r0 < j) (h0 : P r0) (hj : P j) : Eqs la P (j + 1) ↔ (Eqs la P j ∧ (la r0 + la j) % 2 = 0) := by
  constructor
  · intro h1
    refine ⟨fun r r' hr hr' p p' => h1 r r' (by omega) (by omega) p p', ?_⟩
    have := h1 r0 j (by omega) (by omega) h0 hj
    omega
  · rintro ⟨h1, h2⟩ r r' hr1 hr2 p p'
    have key : ∀ r, r < j + 1 → P r → la r % 2 = la r0 % 2 := fun r hr1 p => by
      by_cases c : r = j
      · rw [c]; omega
      · exact h1 r r0 (by omega) hr p h0
    rw [key r hr1 p, key r' hr2 p']
theorem half_sem {M : Nat} (hM : M ≤ 40) {to dep : Nat → Int32} {D G : Nat → Nat} {j : Nat} (hj : j < M) (hG : G j < 11) (ht : to j = nI (G j)) (hd : dep (G j) = nI (D (G j))) (hd2 : D (G j) < 11) {lo : Nat} (hlo : lo ≤ 10) {p o c : Int32} {ld tu ld0 tu0 : Nat → Int32} {R P : Nat → Prop} {Q : (Nat → Nat) → Prop} (hp : (p = 1 ∧ R j) ∨ (p = 0 ∧ ¬ R j)) (hP : P j ↔ (R j ∧ lo < D (G j))) (ho : CH P j o) (hC : GC M ld0 tu0 (fun la => Eqs la P j ∧ Q la) c ld tu) :
    Ok ((if p = 0 then (some (o, c, ld, tu)) else (if inb (nI j) 40 = true then (if inb (to (Int32.toNatClampNeg (nI j))) 11 = true then (if (dep (Int32.toNatClampNeg (to (Int32.toNatClampNeg (nI j))))) ≤ nI lo then (some (o, c, ld, tu)) else (((if c = 0 then (some ((0 : Int32), ld, tu)) else (if o < 0 then (some ((1 : Int32), ld, tu)) else ((F_goesM ld tu o (nI j) ((0 : Int32))).bind (fun p_76 => (if p_76.1 = 0 then (some ((0 : Int32), p_76.2.1, p_76.2.2)) else (some ((1 : Int32), p_76.2.1, p_76.2.2)))))))).bind (fun (j_87_62 : Int32 × (Nat → Int32) × (Nat → Int32)) => (some (nI j, j_87_62.1, j_87_62.2.1, j_87_62.2.2))))) else none) else none)) : Option (Int32 × Int32 × (Nat → Int32) × (Nat → Int32))) (fun J => CH P (j + 1) J.1 ∧ GC M ld0 tu0 (fun la => Eqs la P (j + 1) ∧ Q la) J.2.1 J.2.2.1 J.2.2.2) := by
  have stay : ¬ P j → CH P (j + 1) o ∧ GC M ld0 tu0 (fun la => Eqs la P (j + 1) ∧ Q la) c ld tu := fun hn => by
    refine ⟨?_, hC.cg (fun la => by rw [Eqs.no hn])⟩
    rcases ho with ⟨h1, h2⟩ | ⟨r, h1, h2, h3⟩
    · refine Or.inl ⟨h1, fun r hr h9 => ?_⟩
      by_cases e : r = j
      · rw [e] at h9; exact hn h9
      · exact h2 r (by omega) h9
    · exact Or.inr ⟨r, by omega, h2, h3⟩
  rcases hp with ⟨p1, hR⟩ | ⟨p0, hR⟩
  · rw [p1, if_neg (by decide), if_pos (inb_nI (by omega) (by decide)), nI_clamp (by omega), ht, if_pos (inb_nI hG (by decide)), nI_clamp (by omega), hd]
    by_cases cl : D (G j) ≤ lo
    · rw [if_pos ((nLe (by omega) (by omega)).mpr cl)]
      exact ok_some (stay (fun h9 => by have := (hP.mp h9).2; omega))
    · rw [if_neg (fun h9 => cl ((nLe (by omega) (by omega)).mp h9))]
      have hPj : P j := hP.mpr ⟨hR, by omega⟩
      have hch : CH P (j + 1) (nI j) := Or.inr ⟨j, Nat.lt_succ_self j, rfl, hPj⟩
      obtain ⟨hU, hC2⟩ := hC
      rcases hC2 with ⟨c1, hC2⟩ | ⟨c0, hC2⟩
      · rw [c1, if_neg (by decide)]
        rcases ho with ⟨h1, h2⟩ | ⟨r0, h1, h2, h3⟩
        · rw [h1, if_pos (by decide), Option.bind_some]
          exact ok_some ⟨hch, hU, Or.inl ⟨rfl, fun la => by
            rw [hC2 la]
            show (_ ∧ Eqs la P j ∧ Q la) ↔ (_ ∧ Eqs la P (j + 1) ∧ Q la)
            rw [Eqs.fst h2]⟩⟩
        · rw [h2, if_neg (nI_nn (by omega))]
          refine ok_bind (Q := fun q : Int32 × (Nat → Int32) × (Nat → Int32) => GC M ld0 tu0 (fun la => Eqs la P (j + 1) ∧ Q la) q.1 q.2.1 q.2.2) ?_ (fun q hq => ok_some ⟨hch, hq⟩)
          have hgo := goes_spec hM hU (show r0 < M by omega) hj (k := 0) (by decide)
          refine ok_bind hgo (fun q hq => ?_)
          obtain ⟨u1, u2⟩ := hq
          rcases u2 with ⟨v1, v2⟩ | ⟨v0, v2⟩
          · rw [v1, if_neg (by decide)]
            refine ok_some ⟨u1, Or.inl ⟨rfl, fun la => ?_⟩⟩
            show Cu M q.2.1 q.2.2 la ↔ _
            rw [v2 la, hC2 la]
            show ((_ ∧ Eqs la P j ∧ Q la) ∧ _) ↔ (_ ∧ Eqs la P (j + 1) ∧ Q la)
            rw [Eqs.nx h1 h3 hPj]
            constructor
            · rintro ⟨⟨z1, z2, z3⟩, z4⟩; exact ⟨z1, ⟨z2, by omega⟩, z3⟩
            · rintro ⟨z1, ⟨z2, z4⟩, z3⟩; exact ⟨⟨z1, z2, z3⟩, by omega⟩
          · rw [v0, if_pos rfl]
            refine ok_some ⟨u1, Or.inr ⟨rfl, fun la z1 z2 => ?_⟩⟩
            have z2 : Eqs la P (j + 1) ∧ Q la := z2
            rw [Eqs.nx h1 h3 hPj] at z2
            exact v2 la ((hC2 la).mpr ⟨z1, z2.1.1, z2.2⟩) (by have := z2.1.2; omega)
      · rw [c0, if_pos rfl, Option.bind_some]
        exact ok_some ⟨hch, hU, Or.inr ⟨rfl, fun la z1 z2 => hC2 la z1 ⟨fun r r' hr hr' p p' => z2.1 r r' (by omega) (by omega) p p', z2.2⟩⟩⟩
  · rw [p0, if_pos rfl]
    exact ok_some (stay (fun h9 => hR (hP.mp h9).1))
theorem forkL_sem {Pp : Int32 × (Nat → Int32) × (Nat → Int32) → Prop} {K : Int32 → Int32 → Int32 → Int32 → (Nat → Int32) → (Nat → Int32) → Option (Int32 × (Nat → Int32) × (Nat → Int32))} {M : Nat} (hM : M ≤ 40) {ad : Nat → Nat → Prop} {fr to way dep abo : Nat → Int32} {par D F G : Nat → Nat} (h : MW M ad fr to way dep abo par D F G) {e g : Nat} (he : e < M) (hg : g < M) {lo lo2 : Nat} (hlo : lo ≤ 10) (hlo2 : lo2 ≤ 10) {P1 P2 : Nat → Prop} (h1 : ∀ r, P1 r ↔ (RM M ad way par D F G e r ∧ lo < D (G r))) (h2 : ∀ r, P2 r ↔ (RM M ad way par D F G g r ∧ lo2 < D (G r))) {ld0 tu0 : Nat → Int32} (hK : ∀ a b c d ld tu, CH P1 M a → CH P2 M b → GC M ld0 tu0 (fun la => Eqs la P1 M ∧ Eqs la P2 M) c ld tu → Ok (K a b c d ld tu) Pp) : ∀ (f j : Nat) (a b c : Int32) (ld tu : Nat → Int32), j ≤ M → M < j + f → CH P1 j a → CH P2 j b → GC M ld0 tu0 (fun la => Eqs la P1 j ∧ Eqs la P2 j) c ld tu → Ok (F_canForkM_L25 K (nI M) fr to way dep abo (nI e) (nI g) (nI lo) (nI lo2) f a b c (nI j) ld tu) Pp
  | 0, j, a, b, c, ld, tu, h3, h4, _, _, _ => by omega
  | f + 1, j, a, b, c, ld, tu, h3, h4, ha, hb, hc => by
    rw [F_canForkM_L25]
    by_cases c9 : M ≤ j
    · have : j = M := by omega
      subst this
      rw [if_pos ((nLe (by omega) (by omega)).mpr c9)]
      exact hK _ _ _ _ _ _ ha hb hc
    · rw [if_neg (fun h9 => c9 ((nLe (by omega) (by omega)).mp h9))]
      have hj : j < M := by omega
      obtain ⟨b1, b2, b3, b4⟩ := h.1 j hj
      obtain ⟨d1, d2, _⟩ := h.2.1 _ b2
      have r1 : Ok (F_returnsM fr to way dep abo (nI e) (nI j)) (fun p => (p = 1 ∧ RM M ad way par D F G e j) ∨ (p = 0 ∧ ¬ RM M ad way par D F G e j)) := by
        rcases ret_sem hM h he hj with ⟨q1, q2⟩ | ⟨q1, q2⟩
        · exact ⟨_, q1, Or.inl ⟨rfl, q2⟩⟩
        · exact ⟨_, q1, Or.inr ⟨rfl, q2⟩⟩
      have r2 : Ok (F_returnsM fr to way dep abo (nI g) (nI j)) (fun p => (p = 1 ∧ RM M ad way par D F G g j) ∨ (p = 0 ∧ ¬ RM M ad way par D F G g j)) := by
        rcases ret_sem hM h hg hj with ⟨q1, q2⟩ | ⟨q1, q2⟩
        · exact ⟨_, q1, Or.inl ⟨rfl, q2⟩⟩
        · exact ⟨_, q1, Or.inr ⟨rfl, q2⟩⟩
      refine ok_bind r1 (fun p hp => ok_bind (half_sem hM hj b2 b4 d1 d2 hlo (R := RM M ad way par D F G e) (P := P1) (Q := fun la => Eqs la P2 j) hp (h1 j) ha hc) (fun q hq => ?_))
      refine ok_bind r2 (fun p2 hp2 => ok_bind (half_sem hM hj b2 b4 d1 d2 hlo2 (R := RM M ad way par D F G g) (P := P2) (Q := fun la => Eqs la P1 (j + 1)) hp2 (h2 j) hb (hq.2.cg (fun la => and_comm))) (fun q2 hq2 => ?_))
      rw [nI_add1]
      exact forkL_sem hM h he hg hlo hlo2 h1 h2 hK f (j + 1) _ _ _ _ _ (by omega) (by omega) hq.1 hq2.1 (hq2.2.cg (fun la => and_comm))
def CfM (M : Nat) (ad : Nat → Nat → Prop) (way : Nat → Int32) (par D F G : Nat → Nat) (la : Nat → Nat) (e f : Nat) : Prop := Cf (fun r => D (G r)) la (RM M ad way par D F G e) (RM M ad way par D F G f)
theorem forkM_sem {M : Nat} (hM : M ≤ 40) {ad : Nat → Nat → Prop} {fr to way dep abo ld tu : Nat → Int32} {par D F G : Nat → Nat} (h : MW M ad fr to way dep abo par D F G) {e g : Nat} (he : e < M) (hg : g < M) (hfe : F e = F g) (hU : UF M ld tu) : Ok (F_canForkM (nI M) fr to way dep abo ld tu (nI e) (nI g)) (fun R => GC M ld tu (fun la => CfM M ad way par D F G la e g) R.1 R.2.1 R.2.2) := by
  obtain ⟨lo, l1, l2, l3⟩ := low_sem hM h hg
  obtain ⟨lo2, m1, m2, m3⟩ := low_sem hM h he
  unfold F_canForkM
  rw [l1, Option.bind_some, m1, Option.bind_some]
  have p1 : ∀ r, (RM M ad way par D F G e r ∧ ∃ m, RM M ad way par D F G g m ∧ D (G m) < D (G r)) ↔ (RM M ad way par D F G e r ∧ lo < D (G r)) := fun r => by
    constructor
    · rintro ⟨z1, z2⟩; exact ⟨z1, (l3 r (by rw [← hfe]; exact z1.2.2.2.1)).mpr z2⟩
    · rintro ⟨z1, z2⟩; exact ⟨z1, (l3 r (by rw [← hfe]; exact z1.2.2.2.1)).mp z2⟩
  have p2 : ∀ r, (RM M ad way par D F G g r ∧ ∃ m, RM M ad way par D F G e m ∧ D (G m) < D (G r)) ↔ (RM M ad way par D F G g r ∧ lo2 < D (G r)) := fun r => by
    constructor
    · rintro ⟨z1, z2⟩; exact ⟨z1, (m3 r (by rw [hfe]; exact z1.2.2.2.1)).mpr z2⟩
    · rintro ⟨z1, z2⟩; exact ⟨z1, (m3 r (by rw [hfe]; exact z1.2.2.2.1)).mp z2⟩
  refine forkL_sem hM h he hg l2 m2 (P1 := fun r => RM M ad way par D F G e r ∧ ∃ m, RM M ad way par D F G g m ∧ D (G m) < D (G r)) (P2 := fun r => RM M ad way par D F G g r ∧ ∃ m, RM M ad way par D F G e m ∧ D (G m) < D (G r)) p1 p2 (ld0 := ld) (tu0 := tu) (fun a b c d ld1 tu1 ha hb hc => ?_) 64 0 (-1) (-1) 1 ld tu (Nat.zero_le _) (by omega) (Or.inl ⟨rfl, fun r hr => absurd hr (Nat.not_lt_zero r)⟩) (Or.inl ⟨rfl, fun r hr => absurd hr (Nat.not_lt_zero r)⟩) ⟨hU, Or.inl ⟨rfl, fun la => ⟨fun z => ⟨z, fun r _ hr => absurd hr (Nat.not_lt_zero r), fun r _ hr => absurd hr (Nat.not_lt_zero r)⟩, fun z => z.1⟩⟩⟩
  obtain ⟨hU1, hc⟩ := hc
  have cfE : ∀ la, CfM M ad way par D F G la e g → Eqs la (fun r => RM M ad way par D F G e r ∧ ∃ m, RM M ad way par D F G g m ∧ D (G m) < D (G r)) M ∧ Eqs la (fun r => RM M ad way par D F G g r ∧ ∃ m, RM M ad way par D F G e m ∧ D (G m) < D (G r)) M := by
    rintro la ⟨z, z1, z2⟩
    refine ⟨fun r r' _ _ k1 k2 => (z1 r k1).trans (z1 r' k2).symm, fun r r' _ _ k1 k2 => ?_⟩
    have := z2 r k1
    have := z2 r' k2
    omega
  rcases hc with ⟨c1, hc⟩ | ⟨c0, hc⟩
  · rw [c1, if_neg (by decide)]
    rcases ha with ⟨a1, a2⟩ | ⟨ra, a1, a2, a3⟩
    · rw [a1, if_pos (by decide)]
      refine ok_some ⟨hU1, Or.inl ⟨rfl, fun la => ?_⟩⟩
      rw [hc la]
      refine ⟨fun z => ⟨z.1, ?_⟩, fun z => ⟨z.1, cfE la z.2⟩⟩
      by_cases ne : ∃ r, r < M ∧ RM M ad way par D F G g r ∧ ∃ m, RM M ad way par D F G e m ∧ D (G m) < D (G r)
      · obtain ⟨r0, q0, q1⟩ := ne
        refine ⟨la r0 + 1, fun k hk => absurd hk (a2 k hk.1.1), fun k hk => ?_⟩
        have := z.2.2 k r0 hk.1.1 q0 hk q1
        omega
      · exact ⟨0, fun k hk => absurd hk (a2 k hk.1.1), fun k hk => absurd ⟨k, hk.1.1, hk⟩ ne⟩
    · rw [a2, if_neg (nI_nn (by omega))]
      rcases hb with ⟨b1, b2⟩ | ⟨rb, b1, b2, b3⟩
      · rw [b1, if_pos (by decide)]
        refine ok_some ⟨hU1, Or.inl ⟨rfl, fun la => ?_⟩⟩
        rw [hc la]
        refine ⟨fun z => ⟨z.1, la ra, fun k hk => z.2.1 k ra hk.1.1 a1 hk a3, fun k hk => absurd hk (b2 k hk.1.1)⟩, fun z => ⟨z.1, cfE la z.2⟩⟩
      · rw [b2, if_neg (nI_nn (by omega))]
        refine ok_bind (goes_spec hM hU1 a1 b1 (k := 1) (by decide)) (fun q hq => ?_)
        obtain ⟨u1, u2⟩ := hq
        rcases u2 with ⟨v1, v2⟩ | ⟨v0, v2⟩
        · rw [v1, if_neg (by decide)]
          refine ok_some ⟨u1, Or.inl ⟨rfl, fun la => ?_⟩⟩
          show Cu M q.2.1 q.2.2 la ↔ _
          rw [v2 la, hc la]
          constructor
          · rintro ⟨⟨z1, z2, z3⟩, z4⟩
            refine ⟨z1, la ra, fun k hk => z2 k ra hk.1.1 a1 hk a3, fun k hk => ?_⟩
            have := z3 k rb hk.1.1 b1 hk b3
            omega
          · rintro ⟨z1, z2⟩
            refine ⟨⟨z1, cfE la z2⟩, ?_⟩
            obtain ⟨z, y1, y2⟩ := z2
            have := y1 ra a3
            have := y2 rb b3
            omega
        · rw [v0, if_pos rfl]
          refine ok_some ⟨u1, Or.inr ⟨rfl, fun la z1 z2 => v2 la ((hc la).mpr ⟨z1, cfE la z2⟩) ?_⟩⟩
          obtain ⟨z, y1, y2⟩ := z2
          have := y1 ra a3
          have := y2 rb b3
          omega
  · rw [c0, if_pos rfl]
    exact ok_some ⟨hU1, Or.inr ⟨rfl, fun la z1 z2 => hc la z1 (cfE la z2)⟩⟩
def PQ (M : Nat) (ad : Nat → Nat → Prop) (way : Nat → Int32) (par D F G : Nat → Nat) (e f : Nat) (la : Nat → Nat) : Prop := ∀ e' f', e' < f' → f' < M → (e' < e ∨ (e' = e ∧ f' < f)) → F e' = F f' → CfM M ad way par D F G la e' f'
theorem flat24_sem {P : TF → Prop} {K : Int32 → Int32 → (Nat → Int32) → (Nat → Int32) → Option TF} {M : Nat} (hM : M ≤ 40) {ad : Nat → Nat → Prop} {fr to way dep abo : Nat → Int32} {par D F G : Nat → Nat} (h : MW M ad fr to way dep abo par D F G) {ld0 tu0 : Nat → Int32} {e : Nat} (he : e < M) (hK : ∀ c d ld tu, (c = 0 ∧ ∀ la, Cu M ld0 tu0 la → ¬ PQ M ad way par D F G M 0 la) ∨ GC M ld0 tu0 (PQ M ad way par D F G (e + 1) 0) c ld tu → Ok (K c d ld tu) P) : ∀ (f j : Nat) (c : Int32) (ld tu : Nat → Int32), e < j → j ≤ M → M < j + f → GC M ld0 tu0 (PQ M ad way par D F G e j) c ld tu → Ok (F_isFlatM_L24 K (nI M) fr to way dep abo (nI e) f c (nI j) ld tu) P
  | 0, j, c, ld, tu, _, h2, h3, _ => by omega
  | f + 1, j, c, ld, tu, h1, h2, h3, hc => by
    rw [F_isFlatM_L24]
    by_cases c9 : M ≤ j
    · have : j = M := by omega
      subst this
      rw [if_pos ((nLe (by omega) (by omega)).mpr c9)]
      refine hK _ _ _ _ (Or.inr (hc.cg (fun la => ⟨fun z e' f' q1 q2 q3 => z e' f' q1 q2 (by omega), fun z e' f' q1 q2 q3 => z e' f' q1 q2 (by omega)⟩)))
    · rw [if_neg (fun h9 => c9 ((nLe (by omega) (by omega)).mp h9))]
      have hj : j < M := by omega
      obtain ⟨hU, hc2⟩ := id hc
      rcases hc2 with ⟨c1, hc2⟩ | ⟨c0, hc2⟩
      · rw [c1, if_neg (by decide), if_pos (inb_nI (show e < 40 by omega) (by decide)), if_pos (inb_nI (show j < 40 by omega) (by decide)), nI_clamp (by omega), nI_clamp (show j < 2 ^ 31 by omega), (h.1 e he).2.2.1, (h.1 j hj).2.2.1]
        refine ok_bind (Q := fun J : Int32 × (Nat → Int32) × (Nat → Int32) => GC M ld0 tu0 (PQ M ad way par D F G e (j + 1)) J.1 J.2.1 J.2.2) ?_ (fun J hJ => ?_)
        · by_cases cf : F e = F j
          · rw [if_pos (by rw [cf])]
            refine ok_bind (forkM_sem hM h he hj cf hU) (fun q hq => ?_)
            have stp : ∀ la, PQ M ad way par D F G e (j + 1) la ↔ (PQ M ad way par D F G e j la ∧ CfM M ad way par D F G la e j) := fun la => by
              constructor
              · intro z
                exact ⟨fun e' f' q1 q2 q3 q4 => z e' f' q1 q2 (by omega) q4, z e j h1 hj (by omega) cf⟩
              · rintro ⟨z1, z2⟩ e' f' q1 q2 q3 q4
                by_cases c5 : e' = e ∧ f' = j
                · rw [c5.1, c5.2]; exact z2
                · exact z1 e' f' q1 q2 (by omega) q4
            obtain ⟨u1, u2⟩ := hq
            rcases u2 with ⟨v1, v2⟩ | ⟨v0, v2⟩
            · rw [v1, if_neg (by decide)]
              refine ok_some ⟨u1, Or.inl ⟨rfl, fun la => ?_⟩⟩
              show Cu M q.2.1 q.2.2 la ↔ _
              rw [v2 la, hc2 la, stp la, and_assoc]
            · rw [v0, if_pos rfl]
              exact ok_some ⟨u1, Or.inr ⟨rfl, fun la z1 z2 => v2 la ((hc2 la).mpr ⟨z1, ((stp la).mp z2).1⟩) ((stp la).mp z2).2⟩⟩
          · rw [if_neg (fun e9 => cf ((nI_eq_iff (by have := (h.1 e he).1; omega) (by have := (h.1 j hj).1; omega)).mp e9))]
            refine ok_some ⟨hU, Or.inl ⟨rfl, fun la => ?_⟩⟩
            show Cu M ld tu la ↔ _
            rw [hc2 la]
            refine ⟨fun z => ⟨z.1, fun e' f' q1 q2 q3 q4 => ?_⟩, fun z => ⟨z.1, fun e' f' q1 q2 q3 q4 => z.2 e' f' q1 q2 (by omega) q4⟩⟩
            by_cases c5 : e' = e ∧ f' = j
            · rw [c5.1, c5.2] at q4; exact absurd q4 cf
            · exact z.2 e' f' q1 q2 (by omega) q4
        · rw [nI_add1]
          exact flat24_sem hM h he hK f (j + 1) _ _ _ (by omega) (by omega) (by omega) hJ
      · rw [c0, if_pos rfl]
        refine hK _ _ _ _ (Or.inl ⟨rfl, fun la z1 z2 => hc2 la z1 (fun e' f' q1 q2 q3 q4 => z2 e' f' q1 q2 (by omega) q4)⟩)
theorem flat8_sem {P : TF → Prop} {K : Int32 → Int32 → (Nat → Int32) → (Nat → Int32) → Option TF} {M : Nat} (hM : M ≤ 40) {ad : Nat → Nat → Prop} {fr to way dep abo : Nat → Int32} {par D F G : Nat → Nat} (h : MW M ad fr to way dep abo par D F G) {ld0 tu0 : Nat → Int32} (hK : ∀ c d ld tu, (c = 0 ∧ ∀ la, Cu M ld0 tu0 la → ¬ PQ M ad way par D F G M 0 la) ∨ (c = 1 ∧ ∃ la, PQ M ad way par D F G M 0 la) → Ok (K c d ld tu) P) : ∀ (f j : Nat) (c : Int32) (ld tu : Nat → Int32), j ≤ M → M < j + f → ((c = 0 ∧ ∀ la, Cu M ld0 tu0 la → ¬ PQ M ad way par D F G M 0 la) ∨ GC M ld0 tu0 (PQ M ad way par D F G j 0) c ld tu) → Ok (F_isFlatM_L8 K (nI M) fr to way dep abo f c (nI j) ld tu) P
  | 0, j, c, ld, tu, h2, h3, _ => by omega
  | f + 1, j, c, ld, tu, h2, h3, hc => by
    rw [F_isFlatM_L8]
    by_cases c9 : M ≤ j
    · have : j = M := by omega
      subst this
      rw [if_pos ((nLe (by omega) (by omega)).mpr c9)]
      refine hK _ _ _ _ (hc.elim Or.inl (fun hc => ?_))
      obtain ⟨hU, ⟨c1, hc2⟩ | ⟨c0, hc2⟩⟩ := hc
      · obtain ⟨la, hla, _⟩ := hU.2.2.2 (fun _ => 0)
        exact Or.inr ⟨c1, la, ((hc2 la).mp hla).2⟩
      · exact Or.inl ⟨c0, hc2⟩
    · rw [if_neg (fun h9 => c9 ((nLe (by omega) (by omega)).mp h9))]
      have dead : c = 0 → (∀ la, Cu M ld0 tu0 la → ¬ PQ M ad way par D F G M 0 la) → Ok (if c = 0 then K c (nI j) ld tu else F_isFlatM_L24 (fun v1_24 v3_24 wm_leader_24 wm_turned_24 => (F_isFlatM_L8 K (nI M) fr to way dep abo f v1_24 (nI j + 1) wm_leader_24 wm_turned_24)) (nI M) fr to way dep abo (nI j) 64 c (nI j + 1) ld tu) P := fun c0 hn => by
        rw [if_pos c0]
        exact hK _ _ _ _ (Or.inl ⟨c0, hn⟩)
      rcases hc with ⟨c0, hn⟩ | hc
      · exact dead c0 hn
      · obtain ⟨hU, ⟨c1, hc2⟩ | ⟨c0, hc2⟩⟩ := id hc
        · rw [if_neg (by rw [c1]; decide), nI_add1]
          refine flat24_sem hM h (show j < M by omega) (fun c' d' ld' tu' hh => flat8_sem hM h hK f (j + 1) _ _ _ (by omega) (by omega) hh) 64 (j + 1) _ _ _ (by omega) (by omega) (by omega) (hc.cg (fun la => ⟨fun z e' f' q1 q2 q3 => z e' f' q1 q2 (by omega), fun z e' f' q1 q2 q3 => z e' f' q1 q2 (by omega)⟩))
        · exact dead c0 (fun la z1 z2 => hc2 la z1 (fun e' f' q1 q2 q3 q4 => z2 e' f' q1 q2 (by omega) q4))
