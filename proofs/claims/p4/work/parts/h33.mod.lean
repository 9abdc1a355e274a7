abbrev TM2 : Type := Int32 × Int32 × Int32 × (Nat → Int32) × (Nat → Int32) × (Nat → Int32) × (Nat → Int32) × WS7
def PF (R : TM2) : Prop := FT R.2.2.2.2.2.1 R.2.2.2.2.2.2.1
theorem drawM_tot {on ot ma mb fr to way dep abo pile nxt ld tu : Nat → Int32} {lb : Int32} (hb : F_lineBitsM on = some lb) (ho : OT on ot) (h1 : FT fr to) : Ok (F_drawableM on ot ma mb fr to way dep abo pile nxt ld tu) PF := by
  unfold F_drawableM
  rw [hb, Option.bind_some]
  exact ok_bind (isDrawable_tot ho h1) (fun p hp => ok_some hp.2)
theorem witM_tot {on ot ma mb fr to way dep abo pile nxt ld tu : Nat → Int32} {lb : Int32} (hb : F_lineBitsM on = some lb) (ho : OT on ot) (h1 : FT fr to) : Ok (F_witnessM on ot ma mb fr to way dep abo pile nxt ld tu) PF := by
  unfold F_witnessM
  refine ok_bind (patNow_tot hb ho h1) (fun p hp => ok_if (fun _ => ok_some hp.2) (fun _ => ?_))
  rw [cc_eq, Option.bind_some]
  exact ok_if (fun _ => ok_some hp.2) (fun _ => ok_some hp.2)
theorem patM_tot {on ot ma mb fr to way dep abo pile nxt ld tu : Nat → Int32} {lb : Int32} (hb : F_lineBitsM on = some lb) (ho : OT on ot) (h1 : FT fr to) : Ok (F_patternM on ot ma mb fr to way dep abo pile nxt ld tu) PF :=
  ok_bind (patNow_tot hb ho h1) (fun p hp => ok_some hp.2)
theorem corner83_L {P : TM2 → Prop} {K : Int32 → Option TM2} {on ot : Nat → Int32} {v m : Int32} {a b fr to w d ab p nx l t : Nat → Int32} {th s0 : Int32} {k74 : Nat} (hP : ∀ r, P (r, th, m, a, b, fr, to, w, d, ab, p, nx, l, t)) (hK : ∀ x, Ok (K x) P) : ∀ (n k : Nat) (x : Int32), Ok (F_cornerM_L83 K on ot v m a b fr to w d ab p nx l t th s0 k74 n k x) P
  | 0, k, x => by rw [F_cornerM_L83]; exact hK x
  | n + 1, k, x => by
    rw [F_cornerM_L83, deg_eq, Option.bind_some]
    exact ok_if (fun _ => corner83_L hP hK n (k + 1) _) (fun _ => ok_if (fun _ => ok_if (fun _ => ok_some (hP _)) (fun _ => corner83_L hP hK n (k + 1) _)) (fun _ => corner83_L hP hK n (k + 1) _))
theorem corner74_L {P : TM2 → Prop} {K : Int32 → Option TM2} {on ot : Nat → Int32} {v m : Int32} {a b fr to w d ab p nx l t : Nat → Int32} {th s0 : Int32} (hP : ∀ r, P (r, th, m, a, b, fr, to, w, d, ab, p, nx, l, t)) (hK : ∀ x, Ok (K x) P) : ∀ (n k : Nat) (x : Int32), Ok (F_cornerM_L74 K on ot v m a b fr to w d ab p nx l t th s0 n k x) P
  | 0, k, x => by rw [F_cornerM_L74]; exact hK x
  | n + 1, k, x => by
    rw [F_cornerM_L74]
    exact corner83_L hP (fun y => corner74_L hP hK n (k + 1) y) 10 0 x
theorem cornM_tot {on ot ma mb fr to way dep abo pile nxt ld tu : Nat → Int32} {lb : Int32} (hb : F_lineBitsM on = some lb) (ho : OT on ot) (h1 : FT fr to) (hs : ∀ v : Int32, (∀ i, bit v i = true → bit lb i = true) → LSet on ot v) (k : Int32) : Ok (F_cornerM on ot ma mb fr to way dep abo pile nxt ld tu k) PF := by
  unfold F_cornerM
  refine ok_bind (patNow_tot hb ho h1) (fun p hp => ?_)
  have hcl := cf_le (p := fun i => decide (2 < cf (at_ on ot p.1 (nI i)) 24 0)) 10 0
  by_cases hz : p.1 = 0
  · rw [if_pos hz, Option.bind_some, if_pos hz]
    dsimp only
    rw [ref_1, Option.bind_some]
    exact ok_some hp.2
  · rw [if_neg hz, cc_eq, Option.bind_some, Option.bind_some, if_neg hz]
    show Ok ((F_refusedM 0 (if k < 0 then (1 : Int32) else (if k < nI (cf (fun i => decide (2 < cf (at_ on ot p.1 (nI i)) 24 0)) 10 0) then 0 else 1)) 0).bind _) _
    by_cases hk : k < 0
    · rw [if_pos hk, ref_2, Option.bind_some]
      exact ok_some hp.2
    · rw [if_neg hk]
      by_cases hk2 : k < nI (cf (fun i => decide (2 < cf (at_ on ot p.1 (nI i)) 24 0)) 10 0)
      · rw [if_pos hk2, ref_0, Option.bind_some]
        have hpos : 0 < cf (fun i => decide (2 < cf (at_ on ot p.1 (nI i)) 24 0)) 10 0 := by
          rw [Int32.lt_iff_toInt_lt, Int32.toInt_zero] at hk
          rw [Int32.lt_iff_toInt_lt, nI_toInt (by omega)] at hk2
          omega
        refine ok_if (fun _ => ?_) (fun _ => ok_some hp.2)
        refine ok_bind (Q := fun _ => True) (ok_if (fun _ => ok_some trivial) (fun _ => ok_bind (opp_tot (hs _ hp.1) hpos) (fun _ _ => ok_some trivial))) (fun y _ => ?_)
        exact corner74_L (fun r => hp.2) (fun x => ok_some hp.2) 2 0 k
      · rw [if_neg hk2, ref_2, Option.bind_some]
        exact ok_some hp.2
theorem pw155_L {K : (Nat → Int32) → Option (Int32 × (Nat → Int32))} {P : Int32 × (Nat → Int32) → Prop} {on ot : Nat → Int32} {k54 : Nat} {q : Nat → Int32} (hK : ∀ w, Ok (K w) P) : ∀ (n k : Nat) (w : Nat → Int32), Ok (F_piecesWithoutM_L155 K on ot k54 q n k w) P
  | 0, k, w => by rw [F_piecesWithoutM_L155]; exact hK w
  | n + 1, k, w => by
    rw [F_piecesWithoutM_L155]
    exact ok_if (fun _ => pw155_L hK n (k + 1) _) (fun _ => pw155_L hK n (k + 1) _)
theorem pw54_L {K : Int32 → (Nat → Int32) → Option (Int32 × (Nat → Int32))} {P : Int32 × (Nat → Int32) → Prop} {on ot : Nat → Int32} {v1 v2 : Int32} (ho : OT on ot) (hK : ∀ x w, Ok (K x w) P) : ∀ (n k : Nat) (x : Int32) (w : Nat → Int32), k + n = 24 → Ok (F_piecesWithoutM_L54 K on ot v1 v2 n k x w) P
  | 0, k, x, w, _ => by rw [F_piecesWithoutM_L54]; exact hK x w
  | n + 1, k, x, w, h => by
    rw [F_piecesWithoutM_L54]
    by_cases c : on k < 0
    · rw [if_pos c]
      exact pw54_L ho hK n (k + 1) x w (by omega)
    · obtain ⟨a, b, ha, hb, e1, e2⟩ := ho k (by omega) c
      refine ok_if (fun _ => pw54_L ho hK n (k + 1) x w (by omega)) (fun _ => ?_)
      rw [e1, e2]
      refine ok_th (inb_nI ha (by decide)) (ok_th (inb_nI hb (by decide)) (ok_if (fun _ => pw54_L ho hK n (k + 1) _ _ (by omega)) (fun _ => pw155_L (fun u => pw54_L ho hK n (k + 1) _ _ (by omega)) 10 0 _)))
theorem pw5_L {K : Int32 → (Nat → Int32) → Option (Int32 × (Nat → Int32))} {P : Int32 × (Nat → Int32) → Prop} {mt : Nat → Int32} {v1 : Int32} (hK : ∀ x w, Ok (K x w) P) : ∀ (n k : Nat) (x : Int32) (w : Nat → Int32), Ok (F_piecesWithoutM_L5 K mt v1 n k x w) P
  | 0, k, x, w => by rw [F_piecesWithoutM_L5]; exact hK x w
  | n + 1, k, x, w => by
    rw [F_piecesWithoutM_L5]
    exact pw5_L hK n (k + 1) _ _
theorem pw_tot {mt on ot pc : Nat → Int32} (ho : OT on ot) (v1 v2 : Int32) : Ok (F_piecesWithoutM mt on ot pc v1 v2) (fun _ => True) :=
  pw5_L (fun x w => pw54_L ho (fun _ _ => ok_some trivial) 24 0 x w rfl) 10 0 _ _
theorem couldHave_tot {on ot ma mb fr to way dep abo pile nxt ld tu : Nat → Int32} {lb : Int32} (hb : F_lineBitsM on = some lb) (ho : OT on ot) (h1 : FT fr to) {i j : Nat} (hi : i < 11) (hj : j < 11) : Ok (F_couldHaveM on ot ma mb fr to way dep abo pile nxt ld tu (nI i) (nI j)) (fun R => z01 R.1 ∧ FT R.2.2.2.2.1 R.2.2.2.2.2.1) := by
  unfold F_couldHaveM
  rw [hb, Option.bind_some]
  refine ok_bind (lay_tot ho) (fun p hp => ?_)
  obtain ⟨M, hM, e, hab⟩ := hp
  rw [e]
  refine ok_bind (layLine_tot (by omega) hab hi hj) (fun q hq => ?_)
  rw [hq.1]
  exact ok_bind (flat_tot (by omega) hq.2 h1) (fun r hr => ok_some ⟨hr.1, hr.2⟩)
theorem room19_L {P : TM2 → Prop} {K : Int32 → Int32 → (Nat → Int32) → (Nat → Int32) → (Nat → Int32) → (Nat → Int32) → (Nat → Int32) → (Nat → Int32) → (Nat → Int32) → (Nat → Int32) → (Nat → Int32) → (Nat → Int32) → (Nat → Int32) → Option TM2} {mt on ot : Nat → Int32} {lb : Int32} (hb : F_lineBitsM on = some lb) (ho : OT on ot) {k9 : Nat} (h9 : k9 < 10) (hK : ∀ v m a b fr to w d ab p n l t, FT fr to → Ok (K v m a b fr to w d ab p n l t) P) : ∀ (n k : Nat) (v m : Int32) (a b fr to w d ab p nx l t : Nat → Int32), k + n = 10 → FT fr to → Ok (F_roomM_L19 K mt on ot k9 n k v m a b fr to w d ab p nx l t) P
  | 0, k, v, m, a, b, fr, to, w, d, ab, p, nx, l, t, _, h1 => by rw [F_roomM_L19]; exact hK _ _ _ _ _ _ _ _ _ _ _ _ _ h1
  | n + 1, k, v, m, a, b, fr, to, w, d, ab, p, nx, l, t, hk, h1 => by
    rw [F_roomM_L19]
    refine ok_bind (Q := fun (J : TM) => FT J.2.2.2.2.1 J.2.2.2.2.2.1) (ok_if (fun _ => ok_some h1) (fun _ => ok_if (fun _ => ok_some h1) (fun _ => ?_))) (fun J hJ => room19_L hb ho h9 hK n (k + 1) _ _ _ _ _ _ _ _ _ _ _ _ _ (by omega) hJ)
    refine ok_bind (Q := fun _ => True) (by
      rcases lineB_eq on ot (nI k9) (nI k) with ⟨e, _⟩ | ⟨l, _, _, e⟩
      · exact ⟨_, e, trivial⟩
      · exact ⟨_, e, trivial⟩) (fun x _ => ok_if (fun _ => ok_some h1) (fun _ => ?_))
    exact ok_bind (couldHave_tot hb ho h1 (by omega) (by omega)) (fun q hq => ok_if (fun _ => ok_some hq.2) (fun _ => ok_some hq.2))
theorem room9_L {P : TM2 → Prop} {K : Int32 → Int32 → (Nat → Int32) → (Nat → Int32) → (Nat → Int32) → (Nat → Int32) → (Nat → Int32) → (Nat → Int32) → (Nat → Int32) → (Nat → Int32) → (Nat → Int32) → (Nat → Int32) → (Nat → Int32) → Option TM2} {mt on ot : Nat → Int32} {lb : Int32} (hb : F_lineBitsM on = some lb) (ho : OT on ot) (hK : ∀ v m a b fr to w d ab p n l t, FT fr to → Ok (K v m a b fr to w d ab p n l t) P) : ∀ (n k : Nat) (v m : Int32) (a b fr to w d ab p nx l t : Nat → Int32), k + n = 10 → FT fr to → Ok (F_roomM_L9 K mt on ot n k v m a b fr to w d ab p nx l t) P
  | 0, k, v, m, a, b, fr, to, w, d, ab, p, nx, l, t, _, h1 => by rw [F_roomM_L9]; exact hK _ _ _ _ _ _ _ _ _ _ _ _ _ h1
  | n + 1, k, v, m, a, b, fr, to, w, d, ab, p, nx, l, t, hk, h1 => by
    rw [F_roomM_L9]
    exact room19_L hb ho (by omega) (fun v m a b fr to w d ab p n2 l t h2 => room9_L hb ho hK n (k + 1) _ _ _ _ _ _ _ _ _ _ _ _ _ (by omega) h2) _ _ _ _ _ _ _ _ _ _ _ _ _ _ _ (by omega) h1
theorem roomM_tot {mt on ot ma mb fr to way dep abo pile nxt ld tu : Nat → Int32} {lb m : Int32} (hb : F_lineBitsM on = some lb) (ho : OT on ot) (h1 : FT fr to) : Ok (F_roomM m mt on ot ma mb fr to way dep abo pile nxt ld tu) PF :=
  room9_L hb ho (fun v m a b fr to w d ab p n l t h2 => ok_some h2) 10 0 _ _ _ _ _ _ _ _ _ _ _ _ _ rfl h1
theorem around37_L {P : TM2 → Prop} {K : Int32 → (Nat → Int32) → (Nat → Int32) → Option TM2} {v : Int32} (hK : ∀ M ma mb, M ≤ 34 → AB M ma mb → Ok (K (nI M) ma mb) P) : ∀ (n k M : Nat) (ma mb : Nat → Int32), k + n = 10 → M ≤ 24 + k → AB M ma mb → Ok (F_aroundM_L37 K v n k (nI M) ma mb) P
  | 0, k, M, ma, mb, h1, h2, h => by rw [F_aroundM_L37]; exact hK M ma mb (by omega) h
  | n + 1, k, M, ma, mb, h1, h2, h => by
    rw [F_aroundM_L37]
    refine ok_if (fun _ => ?_) (fun _ => around37_L hK n (k + 1) M ma mb (by omega) (by omega) h)
    refine ok_bind (layLine_tot (y := 10) (by omega) h (show k < 11 by omega) (by decide)) (fun p hp => ?_)
    rw [hp.1]
    exact around37_L hK n (k + 1) (M + 1) _ _ (by omega) (by omega) hp.2
theorem aroundM_tot {mt on ot ma mb fr to way dep abo pile nxt ld tu : Nat → Int32} {lb nb m : Int32} (hn : F_nodeBitsM mt = some nb) (hb : F_lineBitsM on = some lb) (ho : OT on ot) (h1 : FT fr to) (v : Int32) : Ok (F_aroundM m mt on ot ma mb fr to way dep abo pile nxt ld tu v) PF := by
  unfold F_aroundM
  rw [hn, Option.bind_some, hb]
  by_cases c : v &&& (nb ^^^ (-1)) = 0
  · rw [if_pos c]
    dsimp only
    rw [ref_0, Option.bind_some]
    refine ok_if (fun _ => ?_) (fun _ => ok_some h1)
    rw [Option.bind_some]
    refine ok_bind (lay_tot ho) (fun p hp => ?_)
    obtain ⟨M, hM, e, hab⟩ := hp
    rw [e]
    exact around37_L (fun M ma mb hM h => ok_bind (flat_tot (by omega) h h1) (fun q hq => ok_some hq.2)) 10 0 M _ _ rfl (by omega) hab
  · rw [if_neg c]
    dsimp only
    rw [ref_1, Option.bind_some]
    exact ok_some h1
theorem spare74_L {P : TM2 → Prop} {K : Int32 → Int32 → (Nat → Int32) → (Nat → Int32) → (Nat → Int32) → (Nat → Int32) → (Nat → Int32) → (Nat → Int32) → (Nat → Int32) → (Nat → Int32) → (Nat → Int32) → (Nat → Int32) → (Nat → Int32) → Option TM2} {on ot : Nat → Int32} {r : Int32} (ho : OT on ot) {k63 : Nat} (hK : ∀ v m a b fr to w d ab p n l t, FT fr to → Ok (K v m a b fr to w d ab p n l t) P) : ∀ (n k : Nat) (v m : Int32) (a b fr to w d ab p nx l t : Nat → Int32), FT fr to → Ok (F_spareM_L74 K on ot r k63 n k v m a b fr to w d ab p nx l t) P
  | 0, k, v, m, a, b, fr, to, w, d, ab, p, nx, l, t, h1 => by rw [F_spareM_L74]; exact hK _ _ _ _ _ _ _ _ _ _ _ _ _ h1
  | n + 1, k, v, m, a, b, fr, to, w, d, ab, p, nx, l, t, h1 => by
    rw [F_spareM_L74]
    refine ok_if (fun _ => ?_) (fun _ => hK _ _ _ _ _ _ _ _ _ _ _ _ _ h1)
    refine ok_bind (Q := fun (J : TM) => FT J.2.2.2.2.1 J.2.2.2.2.2.1) (ok_if (fun _ => ok_if (fun _ => ?_) (fun _ => ok_some h1)) (fun _ => ok_some h1)) (fun J hJ => spare74_L ho hK n (k + 1) _ _ _ _ _ _ _ _ _ _ _ _ _ hJ)
    exact ok_bind (isDrawable_tot ho h1) (fun q hq => ok_if (fun _ => ok_some hq.2) (fun _ => ok_some hq.2))
theorem spare63_L {P : TM2 → Prop} {K : Int32 → Int32 → (Nat → Int32) → (Nat → Int32) → (Nat → Int32) → (Nat → Int32) → (Nat → Int32) → (Nat → Int32) → (Nat → Int32) → (Nat → Int32) → (Nat → Int32) → (Nat → Int32) → (Nat → Int32) → Option TM2} {on ot : Nat → Int32} {r : Int32} (ho : OT on ot) (hK : ∀ v m a b fr to w d ab p n l t, FT fr to → Ok (K v m a b fr to w d ab p n l t) P) : ∀ (n k : Nat) (v m : Int32) (a b fr to w d ab p nx l t : Nat → Int32), FT fr to → Ok (F_spareM_L63 K on ot r n k v m a b fr to w d ab p nx l t) P
  | 0, k, v, m, a, b, fr, to, w, d, ab, p, nx, l, t, h1 => by rw [F_spareM_L63]; exact hK _ _ _ _ _ _ _ _ _ _ _ _ _ h1
  | n + 1, k, v, m, a, b, fr, to, w, d, ab, p, nx, l, t, h1 => by
    rw [F_spareM_L63]
    exact spare74_L ho (fun v m a b fr to w d ab p n2 l t h2 => spare63_L ho hK n (k + 1) _ _ _ _ _ _ _ _ _ _ _ _ _ h2) _ _ _ _ _ _ _ _ _ _ _ _ _ _ _ h1
theorem spare24_L {P : TM2 → Prop} {K : Int32 → (Nat → Int32) → (Nat → Int32) → (Nat → Int32) → (Nat → Int32) → (Nat → Int32) → (Nat → Int32) → (Nat → Int32) → (Nat → Int32) → (Nat → Int32) → (Nat → Int32) → (Nat → Int32) → Option TM2} {on ot : Nat → Int32} {r : Int32} (ho : OT on ot) (hP : ∀ R : TM2, PF R → P R) (hK : ∀ m a b fr to w d ab p n l t, FT fr to → Ok (K m a b fr to w d ab p n l t) P) : ∀ (n k : Nat) (m : Int32) (a b fr to w d ab p nx l t : Nat → Int32), FT fr to → Ok (F_spareM_L24 K on ot r n k m a b fr to w d ab p nx l t) P
  | 0, k, m, a, b, fr, to, w, d, ab, p, nx, l, t, h1 => by rw [F_spareM_L24]; exact hK _ _ _ _ _ _ _ _ _ _ _ _ h1
  | n + 1, k, m, a, b, fr, to, w, d, ab, p, nx, l, t, h1 => by
    rw [F_spareM_L24]
    refine ok_if (fun _ => ?_) (fun _ => spare24_L ho hP hK n (k + 1) _ _ _ _ _ _ _ _ _ _ _ _ h1)
    exact ok_bind (isDrawable_tot ho h1) (fun q hq => ok_if (fun _ => spare24_L ho hP hK n (k + 1) _ _ _ _ _ _ _ _ _ _ _ _ hq.2) (fun _ => ok_some (hP _ hq.2)))
theorem spareM_tot {on ot ma mb fr to way dep abo pile nxt ld tu : Nat → Int32} {lb : Int32} (hb : F_lineBitsM on = some lb) (ho : OT on ot) (h1 : FT fr to) : Ok (F_spareM on ot ma mb fr to way dep abo pile nxt ld tu) PF := by
  unfold F_spareM
  rw [hb, Option.bind_some]
  refine ok_bind (isDrawable_tot ho h1) (fun p hp => ok_if (fun _ => ?_) (fun _ => ok_some hp.2))
  exact spare24_L ho (fun R h => h) (fun m a b fr to w d ab p n l t h2 => spare63_L ho (fun v m a b fr to w d ab p n l t h3 => ok_if (fun _ => ok_some h3) (fun _ => ok_some h3)) 24 0 _ _ _ _ _ _ _ _ _ _ _ _ _ h2) 24 0 _ _ _ _ _ _ _ _ _ _ _ _ hp.2
