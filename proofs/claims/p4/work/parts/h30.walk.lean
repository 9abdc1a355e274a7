def FT (fr to : Nat → Int32) : Prop := ∀ e, e < 40 → ∃ a b : Nat, a < 11 ∧ b < 11 ∧ fr e = nI a ∧ to e = nI b
def DA (dep abo : Nat → Int32) : Prop := ∀ v, v < 11 → dep v = -1 ∨ ∃ d : Nat, d < 11 ∧ dep v = nI d ∧ (abo v = -1 ∨ ∃ u c : Nat, u < 11 ∧ c < d ∧ abo v = nI u ∧ dep u = nI c)
def su (f : Nat → Nat) : Nat → Nat
  | 0 => 0
  | n + 1 => su f n + f n
theorem su_congr {f g : Nat → Nat} : ∀ n, (∀ i, i < n → f i = g i) → su f n = su g n
  | 0, _ => rfl
  | n + 1, h => by rw [su, su, su_congr n (fun i hi => h i (by omega)), h n (Nat.lt_succ_self n)]
theorem php : ∀ (n m : Nat) (f : Nat → Nat), (∀ i, i < m → f i < n) → (∀ i j, i < m → j < m → f i = f j → i = j) → m ≤ n
  | 0, m, f, h1, _ => by
    cases m with
    | zero => exact Nat.le_refl _
    | succ m => exact absurd (h1 0 (by omega)) (by omega)
  | n + 1, m, f, h1, h2 => by
    cases m with
    | zero => omega
    | succ m =>
      have := php n m (fun i => if f i = n then f m else f i) (fun i hi => by
        show (if f i = n then f m else f i) < n
        have a := h1 i (by omega)
        have b := h1 m (by omega)
        by_cases c : f i = n
        · rw [if_pos c]
          have : f m ≠ n := fun e => by have := h2 i m (by omega) (by omega) (c.trans e.symm); omega
          omega
        · rw [if_neg c]; omega) (fun i j hi hj => by
        show (if f i = n then f m else f i) = (if f j = n then f m else f j) → i = j
        by_cases c : f i = n
        · by_cases d : f j = n
          · intro _; exact h2 i j (by omega) (by omega) (c.trans d.symm)
          · rw [if_pos c, if_neg d]
            intro e
            have := h2 m j (by omega) (by omega) e
            omega
        · by_cases d : f j = n
          · rw [if_neg c, if_pos d]
            intro e
            have := h2 i m (by omega) (by omega) e
            omega
          · rw [if_neg c, if_neg d]; exact h2 i j (by omega) (by omega))
      omega
theorem nI_sub1 (m : Nat) : nI (m + 1) - 1 = nI m := by
  rw [nI_succ]; exact Int32.add_sub_cancel _ _
theorem nI_dec (m : Nat) : nI (m + 1) + (-1) = nI m := by
  rw [nI_succ, Int32.add_assoc, show (1 : Int32) + -1 = 0 by decide, Int32.add_zero]
theorem FT.upd2 {fr to : Nat → Int32} (h : FT fr to) {e a b : Nat} (ha : a < 11) (hb : b < 11) : FT (upd fr e (nI a)) (upd to e (nI b)) := by
  intro x hx
  by_cases c : x = e
  · subst c; exact ⟨a, b, ha, hb, pk_us, pk_us⟩
  · obtain ⟨a', b', h1, h2, h3, h4⟩ := h x hx
    exact ⟨a', b', h1, h2, (pk_un c).trans h3, (pk_un c).trans h4⟩
theorem DA.push {dep abo : Nat → Int32} (h : DA dep abo) {w v i : Nat} (hv : v < 11) (hw : w < 11) (hu : dep w = -1) (hd : dep v = nI i) (hi : i + 1 < 11) : DA (upd dep w (nI (i + 1))) (upd abo w (nI v)) := by
  intro x hx
  by_cases c : x = w
  · subst c
    refine Or.inr ⟨i + 1, hi, pk_us, Or.inr ⟨v, i, hv, by omega, pk_us, ?_⟩⟩
    rw [pk_un (fun e => by rw [e, hu] at hd; exact nI_nm1 (by omega) hd.symm)]; exact hd
  · rw [pk_un c, pk_un c]
    rcases h x hx with h1 | ⟨d, h1, h2, h3⟩
    · exact Or.inl h1
    · refine Or.inr ⟨d, h1, h2, ?_⟩
      rcases h3 with h3 | ⟨u, k, q1, q2, q3, q4⟩
      · exact Or.inl h3
      · refine Or.inr ⟨u, k, q1, q2, q3, ?_⟩
        rw [pk_un (fun e => by rw [e, hu] at q4; exact nI_nm1 (by omega) q4.symm)]; exact q4
abbrev WS7 : Type := (Nat → Int32) × (Nat → Int32) × (Nat → Int32) × (Nat → Int32) × (Nat → Int32) × (Nat → Int32) × (Nat → Int32)
def WF (M n : Nat) (fr to dep abo pile nxt : Nat → Int32) (left : Nat) : Prop :=
  n ≤ 11 ∧ FT fr to ∧ DA dep abo ∧ ∃ pl nx : Nat → Nat, (∀ i, i < n → pl i < 11 ∧ pile i = nI (pl i) ∧ dep (pl i) = nI i) ∧ (∀ i, i < n → nx i ≤ M ∧ nxt i = nI (nx i)) ∧ left = su (fun i => M + 1 - nx i) n + (M + 1) * cf (fun v => decide (dep v = -1)) 11 0
theorem WF.step {M n : Nat} {fr to dep abo pile nxt : Nat → Int32} {left : Nat} (h : WF M (n + 1) fr to dep abo pile nxt left) {x : Nat} (hx : nxt n = nI x) (hxM : x < M) (hM : M ≤ 40) : ∃ left', left = left' + 1 ∧ WF M (n + 1) fr to dep abo pile (upd nxt n (nI (x + 1))) left' := by
  obtain ⟨h0, h1, h2, pl, nx, h3, h4, h5⟩ := h
  have hxn : nx n = x := by
    have := (h4 n (by omega)).2
    rw [hx, nI_eq_iff (by omega) (by have := (h4 n (by omega)).1; omega)] at this
    exact this.symm
  refine ⟨su (fun i => M + 1 - (fun i => if i = n then x + 1 else nx i) i) (n + 1) + (M + 1) * cf (fun v => decide (dep v = -1)) 11 0, ?_, h0, h1, h2, pl, fun i => if i = n then x + 1 else nx i, h3, fun i hi => ?_, rfl⟩
  · rw [h5, su, su]
    have e : su (fun i => M + 1 - (fun i => if i = n then x + 1 else nx i) i) n = su (fun i => M + 1 - nx i) n := su_congr n (fun i hi => by show M + 1 - (if i = n then x + 1 else nx i) = _; rw [if_neg (by omega)])
    rw [e]
    show _ + (M + 1 - nx n) + _ = _ + (M + 1 - (if n = n then x + 1 else nx n)) + _ + 1
    rw [if_pos rfl, hxn]
    omega
  · show (if i = n then x + 1 else nx i) ≤ M ∧ upd nxt n (nI (x + 1)) i = nI (if i = n then x + 1 else nx i)
    by_cases c : i = n
    · subst c; rw [if_pos rfl, pk_us]; exact ⟨hxM, rfl⟩
    · rw [if_neg c, pk_un c]; exact h4 i hi
theorem WF.pop {M n : Nat} {fr to dep abo pile nxt : Nat → Int32} {left : Nat} {z : Int32} (h : WF M (n + 1) fr to dep abo pile nxt left) (hx : nxt n = nI M) (hM : M ≤ 40) : ∃ left', left = left' + 1 ∧ WF M n fr to dep abo pile (upd nxt n z) left' := by
  obtain ⟨h0, h1, h2, pl, nx, h3, h4, h5⟩ := h
  have hxn : nx n = M := by
    have := (h4 n (by omega)).2
    rw [hx, nI_eq_iff (by omega) (by have := (h4 n (by omega)).1; omega)] at this
    exact this.symm
  refine ⟨su (fun i => M + 1 - nx i) n + (M + 1) * cf (fun v => decide (dep v = -1)) 11 0, ?_, by omega, h1, h2, pl, nx, fun i hi => h3 i (by omega), fun i hi => ?_, rfl⟩
  · rw [h5, su, hxn]
    show _ + (M + 1 - M) + _ = _
    omega
  · rw [pk_un (by omega)]; exact h4 i (by omega)
theorem cf_clear {p q : Nat → Bool} {i : Nat} (hp : p i = true) (hq : q i = false) (he : ∀ j, j ≠ i → q j = p j) : ∀ (n k : Nat), k ≤ i → i < k + n → cf p n k = cf q n k + 1
  | 0, k, h1, h2 => by omega
  | n + 1, k, h1, h2 => by
    rw [cf, cf]
    by_cases e : k = i
    · subst e
      rw [hp, hq, cf_congr n (k + 1) (fun j h3 h4 => (he j (by omega)).symm)]
      simp
      omega
    · rw [he k e, cf_clear hp hq he n (k + 1) (by omega) (by omega)]; omega
theorem WF.push {M n : Nat} {fr to dep abo pile nxt : Nat → Int32} {left : Nat} (h : WF M (n + 1) fr to dep abo pile nxt left) {w v e : Nat} (hM : M ≤ 40) (hw : w < 11) (hu : dep w = -1) (hp : pile n = nI v) (hv : v < 11) : n + 1 < 11 ∧ dep v = nI n ∧ ∃ left', left = left' ∧ WF M (n + 2) (upd fr e (nI v)) (upd to e (nI w)) (upd dep w (nI (n + 1))) (upd abo w (nI v)) (upd pile (n + 1) (nI w)) (upd nxt (n + 1) 0) left' := by
  obtain ⟨h0, h1, h2, pl, nx, h3, h4, h5⟩ := h
  have hn : n + 2 ≤ 11 := by
    refine php 11 (n + 2) (fun i => if i = n + 1 then w else pl i) (fun i hi => ?_) (fun i j hi hj => ?_)
    · show (if i = n + 1 then w else pl i) < 11
      by_cases c : i = n + 1
      · rw [if_pos c]; exact hw
      · rw [if_neg c]; exact (h3 i (by omega)).1
    · show (if i = n + 1 then w else pl i) = (if j = n + 1 then w else pl j) → i = j
      have key : ∀ i, i < n + 1 → pl i ≠ w := fun i hi e => by
        have := (h3 i hi).2.2
        rw [e, hu] at this
        exact nI_nm1 (by omega) this.symm
      by_cases c : i = n + 1
      · by_cases d : j = n + 1
        · intro _; rw [c, d]
        · rw [if_pos c, if_neg d]; intro e; exact absurd e.symm (key j (by omega))
      · by_cases d : j = n + 1
        · rw [if_neg c, if_pos d]; intro e; exact absurd e (key i (by omega))
        · rw [if_neg c, if_neg d]
          intro e
          have a := (h3 i (by omega)).2.2
          have b := (h3 j (by omega)).2.2
          rw [e, b] at a
          rw [nI_eq_iff (by omega) (by omega)] at a
          exact a.symm
  have hpn := h3 n (by omega)
  have hvn : pl n = v := by
    have := hpn.2.1
    rw [hp, nI_eq_iff (by omega) (by omega)] at this
    exact this.symm
  have hdv : dep v = nI n := by rw [← hvn]; exact hpn.2.2
  refine ⟨by omega, hdv, _, rfl, by omega, h1.upd2 hv hw, h2.push hv hw hu hdv (by omega), fun i => if i = n + 1 then w else pl i, fun i => if i = n + 1 then 0 else nx i, fun i hi => ?_, fun i hi => ?_, ?_⟩
  · show (if i = n + 1 then w else pl i) < 11 ∧ upd pile (n + 1) (nI w) i = nI (if i = n + 1 then w else pl i) ∧ upd dep w (nI (n + 1)) (if i = n + 1 then w else pl i) = nI i
    by_cases c : i = n + 1
    · subst c; rw [if_pos rfl, pk_us, pk_us]; exact ⟨hw, rfl, rfl⟩
    · rw [if_neg c, pk_un c]
      obtain ⟨q1, q2, q3⟩ := h3 i (by omega)
      refine ⟨q1, q2, ?_⟩
      rw [pk_un (fun e => by rw [e, hu] at q3; exact nI_nm1 (by omega) q3.symm)]; exact q3
  · show (if i = n + 1 then 0 else nx i) ≤ M ∧ upd nxt (n + 1) 0 i = nI (if i = n + 1 then 0 else nx i)
    by_cases c : i = n + 1
    · subst c; rw [if_pos rfl, pk_us]; exact ⟨Nat.zero_le _, rfl⟩
    · rw [if_neg c, pk_un c]; exact h4 i (by omega)
  · rw [h5, cf_clear (p := fun v => decide (dep v = -1)) (q := fun v => decide (upd dep w (nI (n + 1)) v = -1)) (i := w) (by show decide (dep w = -1) = true; rw [decide_eq_true hu]) (by show decide (upd dep w (nI (n + 1)) w = -1) = false; rw [pk_us, decide_eq_false (nI_nm1 (by omega))]) (fun j hj => by show decide (upd dep w (nI (n + 1)) j = -1) = decide (dep j = -1); rw [pk_un hj]) 11 0 (Nat.zero_le _) (by omega)]
    show _ = su (fun i => M + 1 - (if i = n + 1 then 0 else nx i)) (n + 1) + (M + 1 - (if n + 1 = n + 1 then 0 else nx (n + 1))) + _
    rw [if_pos rfl, su_congr (f := fun i => M + 1 - (if i = n + 1 then 0 else nx i)) (g := fun i => M + 1 - nx i) (n + 1) (fun i hi => by show M + 1 - (if i = n + 1 then 0 else nx i) = _; rw [if_neg (by omega)]), Nat.mul_add]
    omega

theorem wf_body {M n : Nat} (hM : M ≤ 40) {ma mb fr to way dep abo pile nxt : Nat → Int32} (hab : ∀ e, e < M → (∃ x : Nat, x < 11 ∧ ma e = nI x) ∧ ∃ x : Nat, x < 11 ∧ mb e = nI x) {left : Nat} (h : WF M (n + 1) fr to dep abo pile nxt left) {x v : Nat} (hx : nxt n = nI x) (hxM : x < M) (hp : pile n = nI v) (hv : v < 11) (j : Int32) (hj : ∃ w : Nat, w < 11 ∧ j = nI w) :
    Ok ((if inb j 11 = true then ((fun (j_180_172 : Int32) => (if 0 ≤ (dep (Int32.toNatClampNeg j)) then (some (nI (n + 1), upd fr x (nI v), upd to x j, upd way x j_180_172, dep, abo, pile, upd nxt n (nI (x + 1)))) else (if inb (nI v) 11 = true then (if inb (nI (n + 1)) 11 = true then (some (nI (n + 1) + 1, upd fr x (nI v), upd to x j, upd way x j_180_172, upd dep (Int32.toNatClampNeg j) ((dep (Int32.toNatClampNeg (nI v))) + 1), upd abo (Int32.toNatClampNeg j) (nI v), upd pile (Int32.toNatClampNeg (nI (n + 1))) j, upd (upd nxt n (nI (x + 1))) (Int32.toNatClampNeg (nI (n + 1))) 0)) else none) else none))) (if 0 ≤ (dep (Int32.toNatClampNeg j)) then ((2 : Int32)) else ((1 : Int32)))) else none) : Option (Int32 × WS7)) (fun J => ∃ n' left', J.1 = nI n' ∧ left = left' + 1 ∧ WF M n' J.2.1 J.2.2.1 J.2.2.2.2.1 J.2.2.2.2.2.1 J.2.2.2.2.2.2.1 J.2.2.2.2.2.2.2 left') := by
  obtain ⟨w, hw, rfl⟩ := hj
  obtain ⟨left', e, hs⟩ := h.step hx hxM hM
  refine ok_th (inb_nI hw (by decide)) ?_
  rw [nI_clamp (by omega)]
  refine ok_if (fun _ => ok_some ⟨n + 1, left', rfl, e, hs.1, hs.2.1.upd2 hv hw, hs.2.2⟩) (fun hd => ?_)
  have hu : dep w = -1 := by
    rcases hs.2.2.1 w hw with q | ⟨d, q1, q2, _⟩
    · exact q
    · rw [q2] at hd; exact absurd (nI_0le (by omega)) hd
  obtain ⟨hn, hdv, left2, e2, hs2⟩ := hs.push (e := x) hM hw hu hp hv
  refine ok_th (inb_nI hv (by decide)) (ok_th (inb_nI hn (by decide)) ?_)
  rw [nI_clamp (by omega), nI_clamp (by omega), hdv, nI_add1, nI_add1]
  exact ok_some ⟨n + 2, left', rfl, e, by rw [e2]; exact hs2⟩
theorem wf_L {P : WS7 → Prop} {K : Int32 → (Nat → Int32) → (Nat → Int32) → (Nat → Int32) → (Nat → Int32) → (Nat → Int32) → (Nat → Int32) → (Nat → Int32) → Option WS7} {M : Nat} (hM : M ≤ 40) {ma mb : Nat → Int32} (hab : ∀ e, e < M → (∃ x : Nat, x < 11 ∧ ma e = nI x) ∧ ∃ x : Nat, x < 11 ∧ mb e = nI x) (hK : ∀ v fr to way dep abo pile nxt, FT fr to → DA dep abo → Ok (K v fr to way dep abo pile nxt) P) : ∀ (f n : Nat) (fr to way dep abo pile nxt : Nat → Int32) (left : Nat), WF M n fr to dep abo pile nxt left → left < f → Ok (F_walkFromM_L30 K (nI M) ma mb f (nI n) fr to way dep abo pile nxt) P
  | 0, n, fr, to, way, dep, abo, pile, nxt, left, h, hl => absurd hl (Nat.not_lt_zero _)
  | f + 1, n, fr, to, way, dep, abo, pile, nxt, left, h, hl => by
    rw [F_walkFromM_L30]
    cases n with
    | zero => rw [if_pos (show nI 0 ≤ 0 by decide)]; exact hK _ _ _ _ _ _ _ _ h.2.1 h.2.2.1
    | succ n =>
      have hn := h.1
      obtain ⟨_, _, _, pl, nx, h3, h4, _⟩ := id h
      obtain ⟨hv, hp, _⟩ := h3 n (by omega)
      obtain ⟨hx, hnx⟩ := h4 n (by omega)
      rw [if_neg (fun h9 => by
        have h9 : nI (n + 1) ≤ nI 0 := h9
        rw [nLe (by omega) (by decide)] at h9; omega), nI_sub1, if_pos (inb_nI (by omega) (by decide)), nI_clamp (by omega), hnx, hp]
      refine ok_bind (Q := fun J => ∃ n' left', J.1 = nI n' ∧ left = left' + 1 ∧ WF M n' J.2.1 J.2.2.1 J.2.2.2.2.1 J.2.2.2.2.2.1 J.2.2.2.2.2.2.1 J.2.2.2.2.2.2.2 left') ?_ (fun J hJ => by
        obtain ⟨n', left', e1, e2, hJ⟩ := hJ
        rw [e1]
        exact wf_L hM hab hK f n' _ _ _ _ _ _ _ left' hJ (by omega))
      refine ok_if (fun he => ?_) (fun he => ?_)
      · obtain ⟨left', e, hs⟩ := h.pop (z := nI (nx n) + 1) (by rw [hnx, he]) hM
        rw [nI_dec]
        exact ok_some ⟨n, left', rfl, e, hs⟩
      · have hlt : nx n < M := by
          apply Classical.byContradiction
          intro h9
          exact he (by rw [show nx n = M by omega])
        rw [nI_clamp (by omega), nI_add1]
        obtain ⟨⟨xa, ha, ea⟩, xb, hb, eb⟩ := hab (nx n) hlt
        obtain ⟨left', e, hs⟩ := h.step hnx hlt hM
        have hj : ∃ w : Nat, w < 11 ∧ (if ma (nx n) = nI (pl n) then mb (nx n) else ma (nx n)) = nI w := by
          by_cases c : ma (nx n) = nI (pl n)
          · rw [if_pos c]; exact ⟨xb, hb, eb⟩
          · rw [if_neg c]; exact ⟨xa, ha, ea⟩
        have hB := wf_body (way := way) hM hab h hnx hlt hp hv _ hj
        refine ok_th (inb_nI (by omega) (by decide)) (ok_if (fun _ => ok_if (fun _ => hB) (fun _ => ok_if (fun _ => hB) (fun _ => ok_some ⟨n + 1, left', rfl, e, hs⟩))) (fun _ => ok_some ⟨n + 1, left', rfl, e, hs⟩))
theorem walkFrom_tot {M : Nat} (hM : M ≤ 40) {ma mb : Nat → Int32} (hab : ∀ e, e < M → (∃ x : Nat, x < 11 ∧ ma e = nI x) ∧ ∃ x : Nat, x < 11 ∧ mb e = nI x) {fr to way dep abo pile nxt : Nat → Int32} (h1 : FT fr to) (h2 : DA dep abo) {r : Nat} (hr : r < 11) (hu : dep r = -1) : Ok (F_walkFromM (nI M) ma mb fr to way dep abo pile nxt (nI r)) (fun R => FT R.1 R.2.1 ∧ DA R.2.2.2.1 R.2.2.2.2.1) := by
  unfold F_walkFromM
  rw [if_pos (inb_nI hr (by decide)), nI_clamp (by omega)]
  have hD : DA (upd dep r 0) (upd abo r (-1)) := by
    intro x hx
    by_cases c : x = r
    · subst c; exact Or.inr ⟨0, by decide, pk_us, Or.inl pk_us⟩
    · rw [pk_un c, pk_un c]
      rcases h2 x hx with q | ⟨d, q1, q2, q3⟩
      · exact Or.inl q
      · refine Or.inr ⟨d, q1, q2, ?_⟩
        rcases q3 with q3 | ⟨u, k, z1, z2, z3, z4⟩
        · exact Or.inl q3
        · refine Or.inr ⟨u, k, z1, z2, z3, ?_⟩
          rw [pk_un (fun e => by rw [e, hu] at z4; exact nI_nm1 (by omega) z4.symm)]; exact z4
  refine wf_L hM hab (fun v fr to way dep abo pile nxt q1 q2 => ok_some ⟨q1, q2⟩) 600 1 fr to way (upd dep r 0) (upd abo r (-1)) (upd pile 0 (nI r)) (upd nxt 0 0) _ ⟨by decide, h1, hD, fun _ => r, fun _ => 0, fun i hi => ?_, fun i hi => ?_, rfl⟩ ?_
  · have : i = 0 := by omega
    subst this
    exact ⟨hr, pk_us, pk_us⟩
  · have : i = 0 := by omega
    subst this
    exact ⟨Nat.zero_le _, pk_us⟩
  · have q := cf_le (p := fun v => decide (upd dep r 0 v = -1)) 11 0
    have q2 : cf (fun v => decide (upd dep r 0 v = -1)) 11 0 ≤ 10 := by
      have := cf_clear (p := fun v => decide (v = r) || decide (upd dep r 0 v = -1)) (q := fun v => decide (upd dep r 0 v = -1)) (i := r) (by simp) (by show decide (upd dep r 0 r = -1) = false; rw [pk_us]; decide) (fun j hj => by simp [hj]) 11 0 (Nat.zero_le _) (by omega)
      have q3 := cf_le (p := fun v => decide (v = r) || decide (upd dep r 0 v = -1)) 11 0
      omega
    show su (fun i => M + 1 - 0) 1 + (M + 1) * cf (fun v => decide (upd dep r 0 v = -1)) 11 0 < 600
    have q4 : (M + 1) * cf (fun v => decide (upd dep r 0 v = -1)) 11 0 ≤ 41 * 10 := Nat.mul_le_mul (by omega) q2
    show 0 + (M + 1 - 0) + _ < 600
    omega
theorem walk60_L {P : (Nat → Int32) × (Nat → Int32) × WS7 → Prop} {K : (Nat → Int32) → (Nat → Int32) → (Nat → Int32) → (Nat → Int32) → (Nat → Int32) → (Nat → Int32) → (Nat → Int32) → Option ((Nat → Int32) × (Nat → Int32) × WS7)} {M : Nat} (hM : M ≤ 40) {ma mb : Nat → Int32} (hab : ∀ e, e < M → (∃ x : Nat, x < 11 ∧ ma e = nI x) ∧ ∃ x : Nat, x < 11 ∧ mb e = nI x) (hK : ∀ fr to way dep abo pile nxt, FT fr to → DA dep abo → Ok (K fr to way dep abo pile nxt) P) : ∀ (n k : Nat) (fr to way dep abo pile nxt : Nat → Int32), k + n = 11 → FT fr to → DA dep abo → Ok (F_walkM_L60 K (nI M) ma mb n k fr to way dep abo pile nxt) P
  | 0, k, fr, to, way, dep, abo, pile, nxt, _, h1, h2 => by rw [F_walkM_L60]; exact hK _ _ _ _ _ _ _ h1 h2
  | n + 1, k, fr, to, way, dep, abo, pile, nxt, hk, h1, h2 => by
    rw [F_walkM_L60]
    refine ok_if (fun _ => walk60_L hM hab hK n (k + 1) _ _ _ _ _ _ _ (by omega) h1 h2) (fun hd => ?_)
    have hu : dep k = -1 := by
      rcases h2 k (by omega) with q | ⟨d, q1, q2, _⟩
      · exact q
      · rw [q2] at hd; exact absurd (nI_0le (by omega)) hd
    exact ok_bind (walkFrom_tot hM hab h1 h2 (by omega) hu) (fun p hp => walk60_L hM hab hK n (k + 1) _ _ _ _ _ _ _ (by omega) hp.1 hp.2)
theorem walk39_L {K : (Nat → Int32) → Option ((Nat → Int32) × (Nat → Int32) × WS7)} {P : (Nat → Int32) × (Nat → Int32) × WS7 → Prop} (hK : ∀ dep, (∀ v, v < 11 → dep v = -1) → Ok (K dep) P) : ∀ (n k : Nat) (dep : Nat → Int32), k + n = 11 → (∀ v, v < k → dep v = -1) → Ok (F_walkM_L39 K n k dep) P
  | 0, k, dep, hk, h => by rw [F_walkM_L39]; exact hK dep (fun v hv => h v (by omega))
  | n + 1, k, dep, hk, h => by
    rw [F_walkM_L39]
    refine walk39_L hK n (k + 1) _ (by omega) (fun v hv => ?_)
    by_cases c : v = k
    · rw [c, pk_us]
    · rw [pk_un c]; exact h v (by omega)
def LD (M : Nat) (ld : Nat → Int32) : Prop := ∃ rk : Nat → Nat, (∀ v, v < M → rk v ≤ cf (fun v => decide (ld v ≠ nI v)) M 0) ∧ ∀ v, v < M → ∃ u : Nat, u < M ∧ ld v = nI u ∧ (u = v ∨ rk v < rk u)
theorem walk2_L {P : (Nat → Int32) × (Nat → Int32) × WS7 → Prop} {K : Int32 → (Nat → Int32) → (Nat → Int32) → (Nat → Int32) → Option ((Nat → Int32) × (Nat → Int32) × WS7)} {M : Nat} (hM : M ≤ 40) (hK : ∀ v way ld tu, (∀ e, e < M → ld e = nI e) → Ok (K v way ld tu) P) : ∀ (n j : Nat) (way ld tu : Nat → Int32), j ≤ M → M < j + n → (∀ e, e < j → ld e = nI e) → Ok (F_walkM_L2 K (nI M) n (nI j) way ld tu) P
  | 0, j, way, ld, tu, h1, h2, h => by omega
  | n + 1, j, way, ld, tu, h1, h2, h => by
    rw [F_walkM_L2]
    refine ok_if (fun h9 => ?_) (fun h9 => ?_)
    · rw [nLe (by omega) (by omega)] at h9
      exact hK _ _ _ _ (fun e he => h e (by omega))
    · rw [nLe (by omega) (by omega)] at h9
      refine ok_th (inb_nI (by omega) (by decide)) ?_
      rw [nI_clamp (by omega), nI_add1]
      refine walk2_L hM hK n (j + 1) _ _ _ (by omega) (by omega) (fun e he => ?_)
      by_cases c : e = j
      · rw [c, pk_us]
      · rw [pk_un c]; exact h e (by omega)
theorem walk_tot_m {M : Nat} (hM : M ≤ 40) {ma mb : Nat → Int32} (hab : ∀ e, e < M → (∃ x : Nat, x < 11 ∧ ma e = nI x) ∧ ∃ x : Nat, x < 11 ∧ mb e = nI x) {fr to way dep abo pile nxt ld tu : Nat → Int32} (h1 : FT fr to) : Ok (F_walkM (nI M) ma mb fr to way dep abo pile nxt ld tu) (fun R => FT R.1 R.2.1 ∧ DA R.2.2.2.1 R.2.2.2.2.1 ∧ LD M R.2.2.2.2.2.2.2.1) :=
  walk2_L hM (fun v way ld tu hl => walk39_L (P := fun R => FT R.1 R.2.1 ∧ DA R.2.2.2.1 R.2.2.2.2.1 ∧ LD M R.2.2.2.2.2.2.2.1) (fun dep hd => walk60_L hM hab (fun fr to way dep abo pile nxt q1 q2 => ok_some ⟨q1, q2, fun _ => 0, fun v _ => Nat.zero_le _, fun v hv => ⟨v, hv, hl v hv, Or.inl rfl⟩⟩) 11 0 _ _ _ _ _ _ _ rfl h1 (fun v hv => Or.inl (hd v hv))) 11 0 _ rfl (fun v hv => absurd hv (Nat.not_lt_zero _))) 64 0 _ _ _ (Nat.zero_le _) (by omega) (fun e he => absurd he (Nat.not_lt_zero _))
