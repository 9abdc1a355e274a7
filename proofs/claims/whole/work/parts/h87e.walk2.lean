theorem walk_spec {near : Nat → Int32} (hW : Wb near) (hC : Cap near) : ∀ (f d : Nat), d + f = 12 → ∀ (V : Nat → Prop) (par D : Nat → Nat) (B : Nat) (T S : Nat → Nat) (dep en re hi al op : Nat → Int32) (b : Nat) (v : Int32), GS near V par D B T S dep en hi al op → b < 11 → ¬ V b → ((d = 0 ∧ v = -1) ∨ ∃ p, p < 11 ∧ v = nI p ∧ d = D p + 1 ∧ V p ∧ aj near p b) → (∀ w, V w → ¬ Pth par D d v w → Dn (aj near) V par D B T S al op w) → Ok (F_walkR f (nI B) 0 dep en re hi al op near (nI b) v (nI d)) (fun R => WQ near d b v V par D B T S re hi al op R)
  | 0, d, hdf, V, par, D, B, T, S, dep, en, re, hi, al, op, b, v, hG, hb, hnb, hp, hdn => by
    exfalso
    rcases hp with ⟨h, _⟩ | ⟨p, _, _, h3, h4, _⟩
    · omega
    · have := deep_lt hG.1 h4 hb hnb
      omega
  | f + 1, d, hdf, V, par, D, B, T, S, dep, en, re, hi, al, op, b, v, hG, hb, hnb, hp, hdn => by
    have hd : d < 11 := by
      rcases hp with ⟨h, _⟩ | ⟨p, _, _, h3, h4, _⟩
      · omega
      · have := deep_lt hG.1 h4 hb hnb
        omega
    rw [F_walkR, if_pos (show nI d < 11 from (nLt (by omega) (by decide)).mpr hd), if_pos (inb_nI hb (by decide)), nI_clamp (show b < 2 ^ 31 by omega)]
    obtain ⟨g1, g2, g3, g4, g5, g6, g7, g8⟩ := id hG
    obtain ⟨p, hp1, hp2, hp3⟩ : ∃ p, (d = 0 ∨ (d = D p + 1 ∧ V p ∧ aj near p b)) ∧ (∀ q, v = nI q → q < 11 → q = p ∧ V p ∧ d = D p + 1) ∧ (d = 0 ∨ (p < 11 ∧ v = nI p)) := by
      rcases hp with ⟨h1, h2⟩ | ⟨p, q1, q2, q3, q4, q5⟩
      · refine ⟨0, Or.inl h1, fun q e hq => ?_, Or.inl h1⟩
        rw [h2] at e
        exact absurd e.symm (nI_nm1 (by omega))
      · refine ⟨p, Or.inr ⟨q3, q4, q5⟩, fun q e hq => ?_, Or.inr ⟨q1, q2⟩⟩
        rw [q2] at e
        exact ⟨((nI_eq_iff (by omega) (by omega)).mp e).symm, q4, q3⟩
    have nb : ∀ w, V w → aj near w b → Pth par D d v w := fun w hw hwb => by
      apply Classical.byContradiction
      intro h9
      exact hnb ((hdn w hw h9).1 b hwb)
    obtain ⟨hG1, hX1⟩ := GS.visit hW hG hb hnb hd hp1 (fun w hw hwb => by
      obtain ⟨q, z1, z2, z3, z4⟩ := nb w hw hwb
      obtain ⟨e, z5, z6⟩ := hp2 q z2 z1
      subst e
      exact ⟨z6, z5, z4⟩)
    have he : ∀ w, V w → (fun w => if w = b then p else par w) w = par w ∧ (fun w => if w = b then d else D w) w = D w := fun w hw => (hX1.1 w hw).2
    have Eb : (fun w => if w = b then d else D w) b = d := if_pos rfl
    have Pb : (fun w => if w = b then p else par w) b = p := if_pos rfl
    have k1 := hG1.1.fr hW
    refine walk_LI (P := fun R => WQ near d b v V par D B T S re hi al op R) hW hC (a := b) (d := d) (v := v) (V0 := V) (par0 := par) (D0 := D) (B0 := B) (T0 := T) (S0 := S) (re0 := re) (hi0 := hi) (al0 := al) (op0 := op) (fun V' par' D' B' T' S' dep' en' re' hi' al' op' c q1 q2 q3 q4 q5 q6 q7 => ?_) (fun x y bl dep en re hi al op z1 z2 => ?_) (fun l acc V' par' D' B' T' S' dep' en' re' hi' al' op' hL hT hacc => ?_) 11 0 0 0 (fun w => V w ∨ w = b) (fun w => if w = b then p else par w) (fun w => if w = b then d else D w) B T S _ en re hi al op rfl ?_ ?_ (fun n => ?_)
    · -- further down
      refine walk_spec hW hC f (d + 1) (by omega) V' par' D' B' T' S' dep' en' re' hi' al' op' c (nI b) q1 q2 q3 (Or.inr ⟨b, hb, rfl, by rw [q5], q4, q6⟩) (fun w hw hnw => q7 w hw (fun ha => hnw ⟨b, hb, rfl, by rw [q5], ha⟩))
    · exact ok_some (Or.inl ⟨rfl, z1, z2⟩)
    · -- at the end
      obtain ⟨hG', hX', ⟨a1, a2, a3, a4, a5⟩, hpv, h3, h4, h5, h6, h7, h8, h10, h11⟩ := hL
      obtain ⟨hl, U, u1, u2, u3⟩ := hT
      have hFR := hG'.1.fr hW
      refine ok_some (Or.inr ⟨rfl, V', par', D', B', T', S', rfl, hG', hX', ⟨a1, a3, fun q z1 z2 => (hpv.1 q z1 z2).1⟩, h3, fun w hw hnw => ?_, h6, hacc, h10, h11⟩)
      by_cases c : w = b
      · subst c
        refine ⟨fun c hc => h5 c hc.2.1 hc, fun t ht => h7 t ht.1.1 ht, fun la hla u u' hu => ?_⟩
        by_cases c1 : ∃ n, RT par' D' B' T' S' w u n
        · by_cases c2 : ∃ n, RT par' D' B' T' S' w u' n
          · obtain ⟨n1, r1⟩ := c1
            obtain ⟨n2, r2⟩ := c2
            obtain ⟨i, i1, i2⟩ := (u2 u n1 r1).resolve_left id
            obtain ⟨j, j1, j2⟩ := (u2 u' n2 r2).resolve_left id
            rcases Nat.lt_trichotomy i j with q | q | q
            · have := u3 la hla i j q j1
              rw [i2, j2] at this
              exact this.sw
            · subst q
              exact absurd (i2.symm.trans j2) hu
            · have := u3 la hla j i q i1
              rw [i2, j2] at this
              exact this
          · exact (Cf.none1 (fun n hn => c2 ⟨n, hn⟩)).sw
        · exact Cf.none1 (fun n hn => c1 ⟨n, hn⟩)
      · refine h4 w hw (fun ha => hnw ?_)
        have hlt : D' w < D' b := by
          rcases Nat.lt_or_ge (D' w) (D' b) with q | q
          · exact q
          · exact absurd (An.eq ha (An.rf b) (by have := ha.1; omega)) c
        have hup := ha.par_of hFR hlt
        rcases hpv.2 with q | ⟨q, z1, z2⟩
        · omega
        · obtain ⟨y1, y2, y3⟩ := hpv.1 q z2 z1
          rw [y1] at hup
          exact ⟨q, z1, z2, y3, hup⟩
    · -- at the start
      refine ⟨hG1, hX1, ⟨Or.inr rfl, hnb, Eb, hd, hb⟩, ⟨fun q z1 z2 => ?_, ?_⟩, fun w hw hnw => ?_, fun w hw hnw => ?_, fun c hc => absurd hc (Nat.not_lt_zero c), fun n z1 z2 => by omega, fun t ht => absurd ht (Nat.not_lt_zero t), fun n hn e => ?_, fun la hla => hla, fun i _ => ⟨rfl, rfl⟩⟩
      · obtain ⟨e, z3, z4⟩ := hp2 q z1 z2
        subst e
        rw [(he q z3).2]
        exact ⟨if_pos rfl, Or.inl z3, z4⟩
      · rcases hp3 with q | q
        · exact Or.inl q
        · exact Or.inr ⟨p, q⟩
      · rcases hw with hw | hw
        · exact absurd hw hnw
        · rw [hw]; exact An.rf b
      · rcases hw with hw | hw
        · refine Dn_ext g1 g2 hX1 (fun la hla => hla) hw (hdn w hw (fun hP => hnw ?_)) (fun u n hn hr => by have := hr.1; omega)
          obtain ⟨q, z1, z2, z3, z4⟩ := hP
          obtain ⟨e, z5, z6⟩ := hp2 q z2 z1
          subst e
          have t1 := (An_ext g1 he z5).mpr z4
          have t2 := An.par k1 (w := b) (by rw [if_pos rfl]; omega)
          rw [if_pos rfl] at t2
          exact t1.tr t2
        · rw [hw] at hnw; exact absurd (An.rf b) hnw
      · have := (g2.1 n hn).2
        rw [e] at this; exact absurd this hnb
    · refine ⟨Nat.le_refl _, fun _ => 0, fun j hj => absurd hj (Nat.not_lt_zero j), fun u n hr => ?_, fun la _ i j _ hj => absurd hj (Nat.not_lt_zero j)⟩
      exfalso
      obtain ⟨q1, q2, q3⟩ := hr
      have hs := (g2.1 n q1).2
      rcases q3 with ⟨z1, z2, z3⟩ | ⟨z1, z2⟩
      · have z4 := (An_ext g1 he hs).mp z3
        have hu := g1.anV hs z4
        rw [(he u hu).1] at z1
        rw [(he u hu).2] at z2
        have := (g1.2.2.1 u z2).2.2
        rw [z1] at this; exact hnb this
      · rw [z2] at hs; exact hnb hs
    · rw [bit_zero]
      exact ⟨fun h9 => absurd h9 (by decide), fun h9 => by omega⟩
theorem GS_ZZ {near : Nat → Int32} (hW : Wb near) {V : Nat → Prop} {par D : Nat → Nat} {B : Nat} {T S : Nat → Nat} {dep en hi al op : Nat → Int32} (hG : GS near V par D B T S dep en hi al op) (hall : ∀ w, w < 11 → V w) (hdn : ∀ w, V w → Dn (aj near) V par D B T S al op w) : ZZ (aj near) := by
  obtain ⟨g1, g2, g3, g4, g5, g6, g7, g8⟩ := hG
  obtain ⟨la, hla⟩ : ∃ la, Cmp B al op la := by
    refine ⟨fun n => if bit (op n) (Classical.epsilon (fun q => bit (al n) q = true ∨ bit (op n) q = true)) = true then 1 else 0, fun n hn m => ⟨fun hm => ?_, fun hm => ?_⟩⟩
    · obtain ⟨_, e1, e2⟩ := ((g7 n hn).2 m).1 hm
      show (if bit (op m) (Classical.epsilon (fun q => bit (al m) q = true ∨ bit (op m) q = true)) = true then 1 else 0) % 2 = (if bit (op n) (Classical.epsilon (fun q => bit (al n) q = true ∨ bit (op n) q = true)) = true then 1 else 0) % 2
      rw [e1, e2]
    · obtain ⟨_, e1, e2⟩ := ((g7 n hn).2 m).2.1 hm
      show ((if bit (op m) (Classical.epsilon (fun q => bit (al m) q = true ∨ bit (op m) q = true)) = true then 1 else 0) + (if bit (op n) (Classical.epsilon (fun q => bit (al n) q = true ∨ bit (op n) q = true)) = true then 1 else 0)) % 2 = 1
      have ec : (fun q => bit (op n) q = true ∨ bit (al n) q = true) = (fun q => bit (al n) q = true ∨ bit (op n) q = true) := by
        funext q
        exact propext ⟨Or.symm, Or.symm⟩
      rw [e1, e2, ec]
      have sp := Classical.epsilon_spec (p := fun q => bit (al n) q = true ∨ bit (op n) q = true) ⟨n, Or.inl (g7 n hn).1⟩
      have dj := ((g7 n hn).2 (Classical.epsilon (fun q => bit (al n) q = true ∨ bit (op n) q = true))).2.2
      rcases sp with s | s
      · rw [if_pos s, if_neg (fun h9 => dj ⟨s, h9⟩)]
      · rw [if_pos s, if_neg (fun h9 => dj ⟨h9, s⟩)]
  have idx : ∀ t s, bk (aj near) par D t s → ∃ n, n < B ∧ T n = t ∧ S n = s := fun t s hb => (hdn s (hall s hb.1.2.1)).2.1 t hb
  have hix : ∀ v u t s, rtn (aj near) par D v u t s → RT par D B T S v u (Classical.epsilon (fun n => n < B ∧ T n = t ∧ S n = s)) ∧ D (T (Classical.epsilon (fun n => n < B ∧ T n = t ∧ S n = s))) = D t := fun v u t s hr => by
    have sp := Classical.epsilon_spec (idx t s hr.1)
    obtain ⟨s1, s2, s3⟩ := sp
    refine ⟨⟨s1, by rw [s2]; exact hr.2.1, ?_⟩, by rw [s2]⟩
    rw [s2, s3]; exact hr.2.2
  refine Sat_Z (g1.fr hW) (fun a b hab => ⟨hW.1 a b hab, g1.2.2.2 a b (hall a hab.1) (hall b hab.2.1) hab⟩) (la := fun t s => la (Classical.epsilon (fun n => n < B ∧ T n = t ∧ S n = s))) ⟨?_, ?_⟩
  · intro v u u' t s t2 s2 tg sg hu r1 r2 r3 d1 d2
    have hv : V v := g1.vis (by have := r1.2.1; omega)
    obtain ⟨z, c1, c2⟩ := (hdn v hv).2.2 la hla u u' hu
    obtain ⟨i1, e1⟩ := hix v u t s r1
    obtain ⟨i2, e2⟩ := hix v u t2 s2 r2
    obtain ⟨i3, e3⟩ := hix v u' tg sg r3
    have k1 := c1 _ ⟨i1, _, i3, by show D (T _) < D (T _); rw [e1, e3]; exact d1⟩
    have k2 := c1 _ ⟨i2, _, i3, by show D (T _) < D (T _); rw [e2, e3]; exact d2⟩
    exact k1.trans k2.symm
  · intro v u u' t s t2 s2 tg sg th sh hu r1 r2 r3 d1 r4 d2
    have hv : V v := g1.vis (by have := r1.2.1; omega)
    obtain ⟨z, c1, c2⟩ := (hdn v hv).2.2 la hla u u' hu
    obtain ⟨i1, e1⟩ := hix v u t s r1
    obtain ⟨i2, e2⟩ := hix v u' t2 s2 r2
    obtain ⟨i3, e3⟩ := hix v u' tg sg r3
    obtain ⟨i4, e4⟩ := hix v u th sh r4
    have k1 := c1 _ ⟨i1, _, i3, by show D (T _) < D (T _); rw [e1, e3]; exact d1⟩
    have k2 := c2 _ ⟨i2, _, i4, by show D (T _) < D (T _); rw [e2, e4]; exact d2⟩
    show (la _ + la _) % 2 = 1
    omega
theorem pass_L {P : TW → Prop} {K : Int32 → Int32 → (Nat → Int32) → (Nat → Int32) → (Nat → Int32) → (Nat → Int32) → (Nat → Int32) → (Nat → Int32) → Option TW} {near : Nat → Int32} (hW : Wb near) (hC : Cap near)
    (hbad : ∀ (bl : Int32) (dep en re hi al op : Nat → Int32), ¬ ZZ (aj near) → HI hi → Ok (K bl 1 dep en re hi al op) P) (hgood : ∀ (bl : Int32) (dep en re hi al op : Nat → Int32), ZZ (aj near) → HI hi → Ok (K bl 0 dep en re hi al op) P) :
    ∀ (n k : Nat) (V : Nat → Prop) (par D : Nat → Nat) (B : Nat) (T S : Nat → Nat) (dep en re hi al op : Nat → Int32), k + n = 11 → GS near V par D B T S dep en hi al op → (∀ w, w < k → V w) → (∀ w, V w → Dn (aj near) V par D B T S al op w) → Ok (F_passesG_L77 K near n k (nI B) 0 dep en re hi al op) P
  | 0, k, V, par, D, B, T, S, dep, en, re, hi, al, op, hk, hG, hv, hdn => by
    rw [F_passesG_L77]
    exact hgood _ _ _ _ _ _ _ (GS_ZZ hW hG (fun w hw => hv w (by omega)) hdn) hG.2.2.2.2.2.1
  | n + 1, k, V, par, D, B, T, S, dep, en, re, hi, al, op, hk, hG, hv, hdn => by
    rw [F_passesG_L77, if_pos rfl]
    have hk11 : k < 11 := by omega
    by_cases hVk : V k
    · have edep := (hG.2.2.2.2.1 k hk11).1 hVk
      have hDk := (hG.1.1 k hVk).2
      rw [if_neg (show ¬ dep k = -1 by rw [edep]; exact nI_nm1 (by omega))]
      refine pass_L hW hC hbad hgood n (k + 1) V par D B T S dep en re hi al op (by omega) hG (fun w hw => ?_) hdn
      by_cases e : w = k
      · rw [e]; exact hVk
      · exact hv w (by omega)
    · have edep := (hG.2.2.2.2.1 k hk11).2 hVk
      rw [if_pos edep]
      have noP : ∀ (par D : Nat → Nat) w, ¬ Pth par D 0 (-1) w := fun par D w h9 => by
        obtain ⟨a, _, _, h, _⟩ := h9
        omega
      obtain ⟨R, eR, hR⟩ := walk_spec hW hC 12 0 rfl V par D B T S dep en re hi al op k (-1) hG hk11 hVk (Or.inl ⟨rfl, rfl⟩) (fun w hw _ => hdn w hw)
      rw [show (0 : Int32) = nI 0 from rfl] at eR ⊢
      rw [eR, Option.bind_some]
      rcases hR with ⟨c1, c2, c3⟩ | ⟨c0, V', par', D', B', T', S', eb, G', X', ⟨k1, k2, k3⟩, w3, w4, w6, w8, w10, w11⟩
      · rw [c1]
        cases n with
        | zero => rw [F_passesG_L77]; exact hbad _ _ _ _ _ _ _ c2 c3.2.2
        | succ n => rw [F_passesG_L77, if_neg (by decide)]; exact hbad _ _ _ _ _ _ _ c2 c3.2.2
      · rw [c0, eb]
        refine pass_L hW hC hbad hgood n (k + 1) V' par' D' B' T' S' _ _ _ _ _ _ (by omega) G' (fun w hw => ?_) (fun w hw => w4 w hw (noP par' D' w))
        by_cases e : w = k
        · rw [e]; exact k1
        · exact (X'.1 w (hv w (by omega))).1
