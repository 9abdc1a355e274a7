theorem isBelow_L {dep abo : Nat → Int32} (hD : DA dep abo) {w : Nat} (hw : w < 11) {K : Int32 → Option Int32} {P : Int32 → Prop} (hK : ∀ v, Ok (K v) P) : ∀ (f : Nat) (v : Int32), ((v = -1 ∧ 1 ≤ f) ∨ ∃ x : Nat, x < 11 ∧ v = nI x ∧ ((dep x = -1 ∧ 1 ≤ f) ∨ ∃ d : Nat, d < 11 ∧ dep x = nI d ∧ d + 2 ≤ f)) → Ok (F_isBelowM_L2 K dep abo (nI w) f v) P
  | 0, v, hv => by
    rcases hv with ⟨_, h⟩ | ⟨x, _, _, ⟨_, h⟩ | ⟨d, _, _, h⟩⟩ <;> omega
  | f + 1, v, hv => by
    rw [F_isBelowM_L2]
    refine ok_if (fun _ => hK v) (fun h0 => ?_)
    rcases hv with ⟨rfl, _⟩ | ⟨x, hx, rfl, hd⟩
    · exact absurd (by decide) h0
    · refine ok_th (inb_nI hx (by decide)) (ok_th (inb_nI hw (by decide)) ?_)
      rw [nI_clamp (by omega), nI_clamp (by omega)]
      refine ok_if (fun _ => hK _) (fun hle => ?_)
      have m1 : ∀ y : Int32, (y = -1 ∨ ∃ d : Nat, d < 11 ∧ y = nI d) → (-1 : Int32) ≤ y := by
        rintro y (rfl | ⟨d, hd, rfl⟩)
        · decide
        · rw [Int32.le_iff_toInt_le, nI_toInt (by omega), show (-1 : Int32).toInt = -1 by decide]; omega
      rcases hD x hx with q | ⟨d, q1, q2, q3⟩
      · rw [q] at hle
        exact absurd (m1 _ (by
          rcases hD w hw with z | ⟨e, z1, z2, _⟩
          · exact Or.inl z
          · exact Or.inr ⟨e, z1, z2⟩)) hle
      · have hdf : d + 2 ≤ f + 1 := by
          rcases hd with ⟨z, _⟩ | ⟨e, z1, z2, z3⟩
          · rw [q2] at z; exact absurd z (nI_nm1 (by omega))
          · rw [q2, nI_eq_iff (by omega) (by omega)] at z2; omega
        rcases q3 with q3 | ⟨u, c, z1, z2, z3, z4⟩
        · rw [q3]
          exact isBelow_L hD hw hK f (-1) (Or.inl ⟨rfl, by omega⟩)
        · rw [z3]
          exact isBelow_L hD hw hK f (nI u) (Or.inr ⟨u, z1, rfl, Or.inr ⟨c, by omega, z4, by omega⟩⟩)
theorem isBelow_tot {dep abo : Nat → Int32} (hD : DA dep abo) {x w : Nat} (hx : x < 11) (hw : w < 11) : Ok (F_isBelowM dep abo (nI x) (nI w)) (fun _ => True) := by
  refine isBelow_L hD hw (fun v => ok_if (fun _ => ok_some trivial) (fun _ => ok_some trivial)) 64 (nI x) (Or.inr ⟨x, hx, rfl, ?_⟩)
  rcases hD x hx with q | ⟨d, q1, q2, _⟩
  · exact Or.inl ⟨q, by decide⟩
  · exact Or.inr ⟨d, q1, q2, by omega⟩
theorem returns_tot {fr to way dep abo : Nat → Int32} (h1 : FT fr to) (hD : DA dep abo) {e r : Nat} (he : e < 40) (hr : r < 40) : Ok (F_returnsM fr to way dep abo (nI e) (nI r)) (fun _ => True) := by
  unfold F_returnsM
  obtain ⟨a, b, ha, hb, e1, e2⟩ := h1 e he
  obtain ⟨c, d, hc, hd, e3, e4⟩ := h1 r hr
  refine ok_th (inb_nI he (by decide)) (ok_if (fun _ => ok_if (fun _ => ok_some trivial) (fun _ => ok_some trivial)) (fun _ => ok_th (inb_nI hr (by decide)) (ok_if (fun _ => ?_) (fun _ => ok_some trivial))))
  rw [nI_clamp (by omega), nI_clamp (by omega), e1, e2, e3, e4]
  exact ok_th (inb_nI hd (by decide)) (ok_th (inb_nI ha (by decide)) (ok_if (fun _ => ok_some trivial) (fun _ => ok_bind (isBelow_tot hD hc hb) (fun _ _ => ok_if (fun _ => ok_some trivial) (fun _ => ok_some trivial)))))
theorem lowest_L {M : Nat} (hM : M ≤ 40) {fr to way dep abo : Nat → Int32} (h1 : FT fr to) (hD : DA dep abo) {e : Nat} (he : e < 40) : ∀ (f j : Nat) (v : Int32), j ≤ M → M < j + f → Ok (F_lowestM_L14 (fun v _ => some v) (nI M) fr to way dep abo (nI e) f v (nI j)) (fun _ => True)
  | 0, j, v, h2, h3 => by omega
  | f + 1, j, v, h2, h3 => by
    rw [F_lowestM_L14]
    refine ok_if (fun _ => ok_some trivial) (fun h9 => ?_)
    rw [nLe (by omega) (by omega)] at h9
    obtain ⟨c, d, hc, hd, e3, e4⟩ := h1 j (by omega)
    refine ok_bind (returns_tot h1 hD he (by omega)) (fun p _ => ok_bind (Q := fun _ => True) (ok_if (fun _ => ok_some trivial) (fun _ => ok_th (inb_nI (by omega) (by decide)) ?_)) (fun q _ => ?_))
    · rw [nI_clamp (by omega), e4]
      exact ok_th (inb_nI hd (by decide)) (ok_if (fun _ => ok_some trivial) (fun _ => ok_some trivial))
    · rw [nI_add1]; exact lowest_L hM h1 hD he f (j + 1) _ (by omega) (by omega)
theorem lowest_tot {M : Nat} (hM : M ≤ 40) {fr to way dep abo : Nat → Int32} (h1 : FT fr to) (hD : DA dep abo) {e : Nat} (he : e < 40) : Ok (F_lowestM (nI M) fr to way dep abo (nI e)) (fun _ => True) := by
  unfold F_lowestM
  obtain ⟨a, b, ha, hb, e1, e2⟩ := h1 e he
  rw [nI_clamp (by omega), e1]
  exact ok_th (inb_nI he (by decide)) (ok_th (inb_nI ha (by decide)) (lowest_L hM h1 hD he 64 0 _ (Nat.zero_le _) (by omega)))
theorem leader_L {M : Nat} (hM : M ≤ 40) {ld : Nat → Int32} {rk : Nat → Nat} {B : Nat} (hB : ∀ v, v < M → rk v ≤ B) (hL : ∀ v, v < M → ∃ u : Nat, u < M ∧ ld v = nI u ∧ (u = v ∨ rk v < rk u)) : ∀ (f v : Nat), v < M → B < rk v + f → Ok (F_leaderOfM_L2 (fun v => some v) ld f (nI v)) (fun r => ∃ p : Nat, p < M ∧ r = nI p ∧ ld p = nI p)
  | 0, v, hv, h => by have := hB v hv; omega
  | f + 1, v, hv, h => by
    rw [F_leaderOfM_L2]
    refine ok_th (inb_nI (by omega) (by decide)) ?_
    rw [nI_clamp (by omega)]
    obtain ⟨u, hu, e, c⟩ := hL v hv
    refine ok_if (fun e2 => ok_some ⟨v, hv, rfl, e2⟩) (fun e2 => ?_)
    rw [e]
    rcases c with c | c
    · rw [c] at e; exact absurd e e2
    · exact leader_L hM hB hL f u hu (by omega)
theorem turn_L {M : Nat} (hM : M ≤ 40) {ld tu : Nat → Int32} {rk : Nat → Nat} {B : Nat} (hB : ∀ v, v < M → rk v ≤ B) (hL : ∀ v, v < M → ∃ u : Nat, u < M ∧ ld v = nI u ∧ (u = v ∨ rk v < rk u)) : ∀ (f v : Nat) (t : Int32), v < M → B < rk v + f → Ok (F_turnOfM_L9 (fun _ t => some t) ld tu f (nI v) t) (fun _ => True)
  | 0, v, t, hv, h => by have := hB v hv; omega
  | f + 1, v, t, hv, h => by
    rw [F_turnOfM_L9]
    refine ok_th (inb_nI (by omega) (by decide)) ?_
    rw [nI_clamp (by omega)]
    obtain ⟨u, hu, e, c⟩ := hL v hv
    refine ok_if (fun e2 => ok_some trivial) (fun e2 => ?_)
    rw [e, nI_clamp (by omega)]
    refine ok_th (inb_nI (by omega) (by decide)) ?_
    rcases c with c | c
    · rw [c] at e; exact absurd e e2
    · exact turn_L hM hB hL f u _ hu (by omega)
theorem goes_tot {M : Nat} (hM : M ≤ 40) {ld tu : Nat → Int32} (h : LD M ld) {r s : Nat} (hr : r < M) (hs : s < M) (ap : Int32) : Ok (F_goesM ld tu (nI r) (nI s) ap) (fun R => LD M R.2.1 ∧ z01 R.1) := by
  obtain ⟨rk, h1, h2⟩ := id h
  have hB := cf_le (p := fun v => decide (ld v ≠ nI v)) M 0
  unfold F_goesM
  refine ok_bind (leader_L hM h1 h2 64 r hr (by omega)) (fun p hp => ok_bind (leader_L hM h1 h2 64 s hs (by omega)) (fun q hq => ?_))
  have t1 : Ok (F_turnOfM ld tu (nI r)) (fun _ => True) := ok_th (inb_nI (by omega) (by decide)) (turn_L hM h1 h2 64 r _ hr (by omega))
  have t2 : Ok (F_turnOfM ld tu (nI s)) (fun _ => True) := ok_th (inb_nI (by omega) (by decide)) (turn_L hM h1 h2 64 s _ hs (by omega))
  refine ok_bind t1 (fun x _ => ok_bind t2 (fun y _ => ok_if (fun _ => ok_if (fun _ => ok_some ⟨h, Or.inr rfl⟩) (fun _ => ok_some ⟨h, Or.inl rfl⟩)) (fun hne => ?_)))
  obtain ⟨p', hp1, rfl, hp2⟩ := hp
  obtain ⟨q', hq1, rfl, hq2⟩ := hq
  have hpq : p' ≠ q' := fun e => hne (by rw [e])
  refine ok_th (inb_nI (by omega) (by decide)) ?_
  rw [nI_clamp (by omega)]
  refine ok_some ⟨⟨fun v => if v = q' then max (rk q') (rk p' + 1) else rk v, fun v hv => ?_, fun v hv => ?_⟩, Or.inr rfl⟩
  · have hc : cf (fun v => decide (upd ld p' (nI q') v ≠ nI v)) M 0 = cf (fun v => decide (ld v ≠ nI v)) M 0 + 1 := by
      refine cf_clear (i := p') ?_ ?_ (fun j hj => ?_) M 0 (Nat.zero_le _) (by omega)
      · show decide (upd ld p' (nI q') p' ≠ nI p') = true
        rw [pk_us]
        exact decide_eq_true (fun e => hpq ((nI_eq_iff (by omega) (by omega)).mp e).symm)
      · show decide (ld p' ≠ nI p') = false
        exact decide_eq_false (fun e => e hp2)
      · show decide (ld j ≠ nI j) = decide (upd ld p' (nI q') j ≠ nI j)
        rw [pk_un hj]
    show (if v = q' then max (rk q') (rk p' + 1) else rk v) ≤ cf (fun v => decide (upd ld p' (nI q') v ≠ nI v)) M 0
    rw [hc]
    have a := h1 v hv
    have b := h1 p' hp1
    have c := h1 q' hq1
    by_cases e : v = q'
    · rw [if_pos e]; omega
    · rw [if_neg e]; omega
  · show ∃ u : Nat, u < M ∧ upd ld p' (nI q') v = nI u ∧ (u = v ∨ (if v = q' then max (rk q') (rk p' + 1) else rk v) < (if u = q' then max (rk q') (rk p' + 1) else rk u))
    by_cases e : v = p'
    · subst e
      refine ⟨q', hq1, pk_us, Or.inr ?_⟩
      rw [if_neg hpq, if_pos rfl]; omega
    · rw [pk_un e]
      obtain ⟨u, hu, e3, c⟩ := h2 v hv
      refine ⟨u, hu, e3, ?_⟩
      rcases c with c | c
      · exact Or.inl c
      · by_cases ev : v = q'
        · exfalso
          rw [ev, hq2, nI_eq_iff (by omega) (by omega)] at e3
          rw [ev, e3] at c
          exact Nat.lt_irrefl _ c
        · rw [if_neg ev]
          by_cases eu : u = q'
          · rw [if_pos eu]; rw [eu] at c; exact Or.inr (by omega)
          · rw [if_neg eu]; exact Or.inr c
def OM (M : Nat) (v : Int32) : Prop := v = -1 ∨ ∃ r : Nat, r < M ∧ v = nI r
theorem OM.pos {M : Nat} (hM : M ≤ 40) {v : Int32} (h : OM M v) (h0 : ¬ v < 0) : ∃ r : Nat, r < M ∧ v = nI r := by
  rcases h with rfl | h
  · exact absurd (by decide) h0
  · exact h
theorem half_tot {M : Nat} (hM : M ≤ 40) {to dep : Nat → Int32} {j : Nat} (hj : j < M) (ht : ∃ d : Nat, d < 11 ∧ to j = nI d) {low p one can : Int32} {ld tu : Nat → Int32} (ho : OM M one) (hz : z01 can) (hL : LD M ld) :
    Ok ((if p = 0 then (some (one, can, ld, tu)) else (if inb (nI j) 40 = true then (if inb (to (Int32.toNatClampNeg (nI j))) 11 = true then (if (dep (Int32.toNatClampNeg (to (Int32.toNatClampNeg (nI j))))) ≤ low then (some (one, can, ld, tu)) else (((if can = 0 then (some ((0 : Int32), ld, tu)) else (if one < 0 then (some ((1 : Int32), ld, tu)) else ((F_goesM ld tu one (nI j) ((0 : Int32))).bind (fun p_76 => (if p_76.1 = 0 then (some ((0 : Int32), p_76.2.1, p_76.2.2)) else (some ((1 : Int32), p_76.2.1, p_76.2.2)))))))).bind (fun (j_87_62 : Int32 × (Nat → Int32) × (Nat → Int32)) => (some (nI j, j_87_62.1, j_87_62.2.1, j_87_62.2.2))))) else none) else none)) : Option (Int32 × Int32 × (Nat → Int32) × (Nat → Int32))) (fun J => OM M J.1 ∧ z01 J.2.1 ∧ LD M J.2.2.1) := by
  obtain ⟨d, hd, e⟩ := ht
  refine ok_if (fun _ => ok_some ⟨ho, hz, hL⟩) (fun _ => ok_th (inb_nI (by omega) (by decide)) ?_)
  rw [nI_clamp (by omega), e]
  refine ok_th (inb_nI hd (by decide)) (ok_if (fun _ => ok_some ⟨ho, hz, hL⟩) (fun _ => ?_))
  refine ok_bind (Q := fun q : Int32 × (Nat → Int32) × (Nat → Int32) => z01 q.1 ∧ LD M q.2.1) (ok_if (fun _ => ok_some ⟨Or.inl rfl, hL⟩) (fun _ => ok_if (fun _ => ok_some ⟨Or.inr rfl, hL⟩) (fun h0 => ?_))) (fun q hq => ok_some ⟨Or.inr ⟨j, hj, rfl⟩, hq.1, hq.2⟩)
  obtain ⟨r, hr, rfl⟩ := ho.pos hM h0
  exact ok_bind (goes_tot hM hL hr hj 0) (fun q hq => ok_if (fun _ => ok_some ⟨Or.inl rfl, hq.1⟩) (fun _ => ok_some ⟨Or.inr rfl, hq.1⟩))
theorem fork_L {P : Int32 × (Nat → Int32) × (Nat → Int32) → Prop} {K : Int32 → Int32 → Int32 → Int32 → (Nat → Int32) → (Nat → Int32) → Option (Int32 × (Nat → Int32) × (Nat → Int32))} {M : Nat} (hM : M ≤ 40) {fr to way dep abo : Nat → Int32} (h1 : FT fr to) (hD : DA dep abo) {e g : Nat} (he : e < 40) (hg : g < 40) {lo lo2 : Int32} (hK : ∀ a b c d ld tu, OM M a → OM M b → z01 c → LD M ld → Ok (K a b c d ld tu) P) : ∀ (f j : Nat) (a b c : Int32) (ld tu : Nat → Int32), j ≤ M → M < j + f → OM M a → OM M b → z01 c → LD M ld → Ok (F_canForkM_L25 K (nI M) fr to way dep abo (nI e) (nI g) lo lo2 f a b c (nI j) ld tu) P
  | 0, j, a, b, c, ld, tu, h2, h3, _, _, _, _ => by omega
  | f + 1, j, a, b, c, ld, tu, h2, h3, ha, hb, hc, hL => by
    rw [F_canForkM_L25]
    refine ok_if (fun _ => hK _ _ _ _ _ _ ha hb hc hL) (fun h9 => ?_)
    rw [nLe (by omega) (by omega)] at h9
    obtain ⟨x, d, hx, hd, e3, e4⟩ := h1 j (by omega)
    refine ok_bind (returns_tot h1 hD he (by omega)) (fun p _ => ok_bind (half_tot hM (by omega) ⟨d, hd, e4⟩ ha hc hL) (fun q hq => ?_))
    refine ok_bind (returns_tot h1 hD hg (by omega)) (fun p2 _ => ok_bind (half_tot hM (by omega) ⟨d, hd, e4⟩ hb hq.2.1 hq.2.2) (fun q2 hq2 => ?_))
    rw [nI_add1]
    exact fork_L hM h1 hD he hg hK f (j + 1) _ _ _ _ _ (by omega) (by omega) hq.1 hq2.1 hq2.2.1 hq2.2.2
theorem fork_tot {M : Nat} (hM : M ≤ 40) {fr to way dep abo ld tu : Nat → Int32} (h1 : FT fr to) (hD : DA dep abo) (hL : LD M ld) {e g : Nat} (he : e < 40) (hg : g < 40) : Ok (F_canForkM (nI M) fr to way dep abo ld tu (nI e) (nI g)) (fun R => LD M R.2.1) := by
  refine ok_bind (lowest_tot hM h1 hD hg) (fun lo _ => ok_bind (lowest_tot hM h1 hD he) (fun lo2 _ => ?_))
  refine fork_L hM h1 hD he hg (fun a b c d ld tu ha hb hc hL => ?_) 64 0 (-1) (-1) 1 ld tu (Nat.zero_le _) (by omega) (Or.inl rfl) (Or.inl rfl) (Or.inr rfl) hL
  refine ok_if (fun _ => ok_some hL) (fun _ => ok_if (fun _ => ok_some hL) (fun h0 => ok_if (fun _ => ok_some hL) (fun h00 => ?_)))
  obtain ⟨r, hr, rfl⟩ := ha.pos hM h0
  obtain ⟨s, hs, rfl⟩ := hb.pos hM h00
  exact ok_bind (goes_tot hM hL hr hs 1) (fun q hq => ok_if (fun _ => ok_some hq.1) (fun _ => ok_some hq.1))
abbrev TF : Type := Int32 × (Nat → Int32) × (Nat → Int32) × WS7
theorem flat24_L {P : TF → Prop} {K : Int32 → Int32 → (Nat → Int32) → (Nat → Int32) → Option TF} {M : Nat} (hM : M ≤ 40) {fr to way dep abo : Nat → Int32} (h1 : FT fr to) (hD : DA dep abo) {e : Nat} (he : e < 40) (hK : ∀ c d ld tu, z01 c → LD M ld → Ok (K c d ld tu) P) : ∀ (f j : Nat) (c : Int32) (ld tu : Nat → Int32), j ≤ M + 1 → M < j + f → 0 < f → z01 c → LD M ld → Ok (F_isFlatM_L24 K (nI M) fr to way dep abo (nI e) f c (nI j) ld tu) P
  | 0, j, c, ld, tu, h2, h3, h4, _, _ => by omega
  | f + 1, j, c, ld, tu, h2, h3, _, hc, hL => by
    rw [F_isFlatM_L24]
    refine ok_if (fun _ => hK _ _ _ _ hc hL) (fun h9 => ok_if (fun _ => hK _ _ _ _ hc hL) (fun _ => ?_))
    rw [nLe (by omega) (by omega)] at h9
    refine ok_th (inb_nI he (by decide)) (ok_th (inb_nI (by omega) (by decide)) ?_)
    refine ok_bind (Q := fun J : Int32 × (Nat → Int32) × (Nat → Int32) => z01 J.1 ∧ LD M J.2.1) (ok_if (fun _ => ok_bind (fork_tot hM h1 hD hL he (by omega)) (fun q hq => ok_if (fun _ => ok_some ⟨Or.inl rfl, hq⟩) (fun _ => ok_some ⟨Or.inr rfl, hq⟩))) (fun _ => ok_some ⟨Or.inr rfl, hL⟩)) (fun J hJ => ?_)
    rw [nI_add1]
    exact flat24_L hM h1 hD he hK f (j + 1) _ _ _ (by omega) (by omega) (by omega) hJ.1 hJ.2
theorem flat8_L {P : TF → Prop} {K : Int32 → Int32 → (Nat → Int32) → (Nat → Int32) → Option TF} {M : Nat} (hM : M ≤ 40) {fr to way dep abo : Nat → Int32} (h1 : FT fr to) (hD : DA dep abo) (hK : ∀ c d ld tu, z01 c → LD M ld → Ok (K c d ld tu) P) : ∀ (f j : Nat) (c : Int32) (ld tu : Nat → Int32), j ≤ M → M < j + f → z01 c → LD M ld → Ok (F_isFlatM_L8 K (nI M) fr to way dep abo f c (nI j) ld tu) P
  | 0, j, c, ld, tu, h2, h3, _, _ => by omega
  | f + 1, j, c, ld, tu, h2, h3, hc, hL => by
    rw [F_isFlatM_L8]
    refine ok_if (fun _ => hK _ _ _ _ hc hL) (fun h9 => ok_if (fun _ => hK _ _ _ _ hc hL) (fun _ => ?_))
    rw [nLe (by omega) (by omega)] at h9
    rw [nI_add1]
    exact flat24_L hM h1 hD (by omega) (fun c d ld tu hc hL => flat8_L hM h1 hD hK f (j + 1) _ _ _ (by omega) (by omega) hc hL) 64 (j + 1) _ _ _ (by omega) (by omega) (by decide) hc hL
theorem is01_of {v : Int32} (h : z01 v) : is01 v = true := by
  rcases h with rfl | rfl <;> decide
theorem flat_tot {M : Nat} (hM : M ≤ 40) {ma mb : Nat → Int32} (hab : ∀ e, e < M → (∃ x : Nat, x < 11 ∧ ma e = nI x) ∧ ∃ x : Nat, x < 11 ∧ mb e = nI x) {fr to way dep abo pile nxt ld tu : Nat → Int32} (h1 : FT fr to) : Ok (F_isFlatM (nI M) ma mb fr to way dep abo pile nxt ld tu) (fun R => z01 R.1 ∧ FT R.2.1 R.2.2.1) :=
  ok_bind (walk_tot_m hM hab h1) (fun p hp => flat8_L hM hp.1 hp.2.1 (fun c d ld tu hc _ => ok_th (is01_of hc) (ok_some ⟨hc, hp.1⟩)) 64 0 1 _ _ (Nat.zero_le _) (by omega) (Or.inr rfl) hp.2.2)
def AB (M : Nat) (ma mb : Nat → Int32) : Prop := ∀ e, e < M → (∃ x : Nat, x < 11 ∧ ma e = nI x) ∧ ∃ x : Nat, x < 11 ∧ mb e = nI x
theorem layLine_tot {M : Nat} (hM : M < 40) {ma mb : Nat → Int32} (h : AB M ma mb) {x y : Nat} (hx : x < 11) (hy : y < 11) : Ok (F_layLineM (nI M) ma mb (nI x) (nI y)) (fun R => R.1 = nI (M + 1) ∧ AB (M + 1) R.2.1 R.2.2) := by
  refine ok_th (inb_nI hM (by decide)) ?_
  rw [nI_clamp (by omega), nI_add1]
  refine ok_some ⟨rfl, fun e he => ?_⟩
  show (∃ z : Nat, z < 11 ∧ upd ma M (nI x) e = nI z) ∧ ∃ z : Nat, z < 11 ∧ upd mb M (nI y) e = nI z
  by_cases c : e = M
  · subst c; exact ⟨⟨x, hx, pk_us⟩, y, hy, pk_us⟩
  · rw [pk_un c, pk_un c]; exact h e (by omega)
def OT (on ot : Nat → Int32) : Prop := ∀ l, l < 24 → ¬ on l < 0 → ∃ a b : Nat, a < 10 ∧ b < 10 ∧ on l = nI a ∧ ot l = nI b
theorem lay_L {P : Int32 × (Nat → Int32) × (Nat → Int32) → Prop} {K : Int32 → (Nat → Int32) → (Nat → Int32) → Option (Int32 × (Nat → Int32) × (Nat → Int32))} {on ot : Nat → Int32} {v : Int32} (ho : OT on ot) (hK : ∀ M ma mb, M ≤ 24 → AB M ma mb → Ok (K (nI M) ma mb) P) : ∀ (n k M : Nat) (ma mb : Nat → Int32), k + n = 24 → M ≤ k → AB M ma mb → Ok (F_layM_L7 K on ot v n k (nI M) ma mb) P
  | 0, k, M, ma, mb, h1, h2, h => by rw [F_layM_L7]; exact hK M ma mb (by omega) h
  | n + 1, k, M, ma, mb, h1, h2, h => by
    rw [F_layM_L7]
    refine ok_bind (Q := fun J : Int32 × (Nat → Int32) × (Nat → Int32) => ∃ M', M' ≤ k + 1 ∧ J.1 = nI M' ∧ AB M' J.2.1 J.2.2) (ok_if (fun _ => ok_if (fun _ => ok_some ⟨M, by omega, rfl, h⟩) (fun h0 => ?_)) (fun _ => ok_some ⟨M, by omega, rfl, h⟩)) (fun J hJ => ?_)
    · obtain ⟨a, b, ha, hb, e1, e2⟩ := ho k (by omega) h0
      rw [e1, e2]
      exact ok_bind (layLine_tot (by omega) h (by omega) (by omega)) (fun p hp => ok_some ⟨M + 1, by omega, hp.1, hp.2⟩)
    · obtain ⟨M', q1, q2, q3⟩ := hJ
      rw [q2]
      exact lay_L ho hK n (k + 1) M' _ _ (by omega) q1 q3
theorem lay_tot {on ot ma mb : Nat → Int32} {v : Int32} (ho : OT on ot) : Ok (F_layM on ot ma mb v) (fun R => ∃ M, M ≤ 24 ∧ R.1 = nI M ∧ AB M R.2.1 R.2.2) :=
  lay_L ho (fun M ma mb hM h => ok_some ⟨M, hM, rfl, h⟩) 24 0 0 ma mb rfl (Nat.le_refl _) (fun e he => absurd he (Nat.not_lt_zero _))
theorem isDrawable_tot {on ot ma mb fr to way dep abo pile nxt ld tu : Nat → Int32} {v : Int32} (ho : OT on ot) (h1 : FT fr to) : Ok (F_isDrawableM on ot ma mb fr to way dep abo pile nxt ld tu v) (fun R => z01 R.1 ∧ FT R.2.2.2.2.1 R.2.2.2.2.2.1) :=
  ok_bind (lay_tot ho) (fun p hp => by
    obtain ⟨M, hM, e, hab⟩ := hp
    rw [e]
    exact ok_bind (flat_tot (by omega) hab h1) (fun q hq => ok_some ⟨hq.1, hq.2⟩))
