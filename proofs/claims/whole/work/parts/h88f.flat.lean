def RS (M : Nat) (ad : Nat → Nat → Prop) (A B : Nat → Nat) (V0 : Nat → Prop) (n : Nat) (fr to way dep abo pile nxt : Nat → Int32) : Prop := ∃ (V : Nat → Prop) (par D F G pl nx : Nat → Nat), RWk M ad A B n fr to way dep abo pile nxt V par D F G pl nx ∧ ∀ w, V0 w → V w
theorem wk_body {M : Nat} (hM : M ≤ 40) {ad : Nat → Nat → Prop} {A B : Nat → Nat} (hE : ED M ad A B) {V0 : Nat → Prop} {n : Nat} {fr to way dep abo pile nxt : Nat → Int32} {V : Nat → Prop} {par D F G pl nx : Nat → Nat} (h : RWk M ad A B (n + 1) fr to way dep abo pile nxt V par D F G pl nx) (hV : ∀ w, V0 w → V w) (hx : nx n < M) (h0 : way (nx n) = 0) {w : Nat} (hen : (A (nx n) = pl n ∧ B (nx n) = w) ∨ (A (nx n) = w ∧ B (nx n) = pl n)) (j : Int32) (hj : j = nI w) :
    Pc ((if inb j 11 = true then ((fun (j_180_172 : Int32) => (if 0 ≤ (dep (Int32.toNatClampNeg j)) then (some (nI (n + 1), upd fr (nx n) (nI (pl n)), upd to (nx n) j, upd way (nx n) j_180_172, dep, abo, pile, upd nxt n (nI (nx n + 1)))) else (if inb (nI (pl n)) 11 = true then (if inb (nI (n + 1)) 11 = true then (some (nI (n + 1) + 1, upd fr (nx n) (nI (pl n)), upd to (nx n) j, upd way (nx n) j_180_172, upd dep (Int32.toNatClampNeg j) ((dep (Int32.toNatClampNeg (nI (pl n)))) + 1), upd abo (Int32.toNatClampNeg j) (nI (pl n)), upd pile (Int32.toNatClampNeg (nI (n + 1))) j, upd (upd nxt n (nI (nx n + 1))) (Int32.toNatClampNeg (nI (n + 1))) 0)) else none) else none))) (if 0 ≤ (dep (Int32.toNatClampNeg j)) then ((2 : Int32)) else ((1 : Int32)))) else none) : Option (Int32 × WS7)) (fun J => ∃ n', J.1 = nI n' ∧ RS M ad A B V0 n' J.2.1 J.2.2.1 J.2.2.2.1 J.2.2.2.2.1 J.2.2.2.2.2.1 J.2.2.2.2.2.2.1 J.2.2.2.2.2.2.2) := by
  subst hj
  have hw : w < 11 := by
    have := hE.1 (nx n) hx
    rcases hen with ⟨_, q⟩ | ⟨q, _⟩ <;> omega
  have hn := h.2.2.1.1
  have hpn := h.2.2.1.2.1 n (by omega)
  have hp11 := (h.1.1 _ hpn.1).1
  refine pc_th (fun _ => ?_)
  rw [nI_clamp (by omega)]
  refine pc_if (fun c => ?_) (fun c => ?_)
  · have hv : V w := Classical.byContradiction (fun q => by
      rw [h.2.1.2 w hw q] at c
      exact absurd c (by decide))
    rw [if_pos c]
    exact pc_some ⟨n + 1, rfl, _, _, _, _, _, _, _, h.back hE hx h0 hen hv, hV⟩
  · have hv : ¬ V w := fun q => c (by rw [(h.2.1.1 w q).1]; exact nI_0le (by have := (h.1.1 w q).2; omega))
    rw [if_neg c]
    refine pc_th (fun _ => pc_th (fun hi => ?_))
    have hn1 : n + 1 < 11 := by
      obtain ⟨i, hi, e⟩ := inb_cases (by decide) hi
      rw [nI_eq_iff (by omega) (by omega)] at e
      omega
    have hd : dep (pl n) = nI n := by rw [(h.2.1.1 _ hpn.1).1, hpn.2.1]
    rw [nI_clamp (by omega), nI_clamp (by omega), hd, nI_add1, nI_add1]
    exact pc_some ⟨n + 2, rfl, _, _, _, _, _, _, _, h.push hE hx h0 hen hv hw hn1, fun u hu => Or.inl (hV u hu)⟩
theorem wk_L {P : WS7 → Prop} {K : Int32 → (Nat → Int32) → (Nat → Int32) → (Nat → Int32) → (Nat → Int32) → (Nat → Int32) → (Nat → Int32) → (Nat → Int32) → Option WS7} {M : Nat} (hM : M ≤ 40) {ad : Nat → Nat → Prop} {A B : Nat → Nat} (hE : ED M ad A B) {V0 : Nat → Prop} {ma mb : Nat → Int32} (hab : ∀ e, e < M → ma e = nI (A e) ∧ mb e = nI (B e)) (hK : ∀ v fr to way dep abo pile nxt, RS M ad A B V0 0 fr to way dep abo pile nxt → Pc (K v fr to way dep abo pile nxt) P) : ∀ (f n : Nat) (fr to way dep abo pile nxt : Nat → Int32), RS M ad A B V0 n fr to way dep abo pile nxt → Pc (F_walkFromM_L30 K (nI M) ma mb f (nI n) fr to way dep abo pile nxt) P
  | 0, n, fr, to, way, dep, abo, pile, nxt, h => fun r e => by rw [F_walkFromM_L30] at e; cases e
  | f + 1, n, fr, to, way, dep, abo, pile, nxt, h => by
    rw [F_walkFromM_L30]
    cases n with
    | zero => rw [if_pos (show nI 0 ≤ 0 by decide)]; exact hK _ _ _ _ _ _ _ _ h
    | succ n =>
      obtain ⟨V, par, D, F, G, pl, nx, h, hV⟩ := h
      have hn := h.2.2.1.1
      obtain ⟨hpv, hpd, hp, hx, hnx⟩ := h.2.2.1.2.1 n (by omega)
      have hp11 := (h.1.1 _ hpv).1
      rw [if_neg (fun h9 => by
        have h9 : nI (n + 1) ≤ nI 0 := h9
        rw [nLe (by omega) (by decide)] at h9; omega), nI_sub1, if_pos (inb_nI (by omega) (by decide)), nI_clamp (by omega), hnx, hp]
      refine pc_bind (Q := fun J => ∃ n', J.1 = nI n' ∧ RS M ad A B V0 n' J.2.1 J.2.2.1 J.2.2.2.1 J.2.2.2.2.1 J.2.2.2.2.2.1 J.2.2.2.2.2.2.1 J.2.2.2.2.2.2.2) ?_ (fun J hJ => by
        obtain ⟨n', e1, hJ⟩ := hJ
        rw [e1]
        exact wk_L hM hE hab hK f n' _ _ _ _ _ _ _ hJ)
      refine pc_if (fun he => ?_) (fun he => ?_)
      · rw [nI_dec]
        exact pc_some ⟨n, rfl, _, _, _, _, _, _, _, h.pop ((nI_eq_iff (by omega) (by omega)).mp he), hV⟩
      · have hlt : nx n < M := by
          apply Classical.byContradiction
          intro h9
          exact he (by rw [show nx n = M by omega])
        rw [nI_clamp (by omega), nI_add1]
        obtain ⟨ha, hb⟩ := hab (nx n) hlt
        obtain ⟨hA, hB, hAB⟩ := hE.1 (nx n) hlt
        have hsk := fun q => h.skip hlt q
        refine pc_th (fun _ => pc_if (fun h0 => pc_if (fun c => ?_) (fun c => pc_if (fun c2 => ?_) (fun c2 => ?_))) (fun h0 => ?_))
        · have c' := c
          rw [ha, nI_eq_iff (by omega) (by omega)] at c'
          exact wk_body hM hE h hV hlt h0 (w := B (nx n)) (Or.inl ⟨c', rfl⟩) _ (by rw [if_pos c]; exact hb)
        · have c' := c2
          rw [hb, nI_eq_iff (by omega) (by omega)] at c'
          exact wk_body hM hE h hV hlt h0 (w := A (nx n)) (Or.inr ⟨rfl, c'⟩) _ (by rw [if_neg c]; exact ha)
        · refine pc_some ⟨n + 1, rfl, _, _, _, _, _, _, _, hsk (fun q => ?_), hV⟩
          rcases q with q | q
          · exact absurd (by rw [ha, q]) c
          · exact absurd (by rw [hb, q]) c2
        · exact pc_some ⟨n + 1, rfl, _, _, _, _, _, _, _, hsk (fun _ => h0), hV⟩
theorem walkFrom_pc {M : Nat} (hM : M ≤ 40) {ad : Nat → Nat → Prop} {A B : Nat → Nat} (hE : ED M ad A B) {V0 : Nat → Prop} {ma mb : Nat → Int32} (hab : ∀ e, e < M → ma e = nI (A e) ∧ mb e = nI (B e)) {fr to way dep abo pile nxt : Nat → Int32} (h : RS M ad A B V0 0 fr to way dep abo pile nxt) {r : Nat} (hr : r < 11) (hu : ¬ 0 ≤ dep r) : Pc (F_walkFromM (nI M) ma mb fr to way dep abo pile nxt (nI r)) (fun R => RS M ad A B (fun w => V0 w ∨ w = r) 0 R.1 R.2.1 R.2.2.1 R.2.2.2.1 R.2.2.2.2.1 R.2.2.2.2.2.1 R.2.2.2.2.2.2) := by
  unfold F_walkFromM
  rw [if_pos (inb_nI hr (by decide)), nI_clamp (by omega)]
  obtain ⟨V, par, D, F, G, pl, nx, h, hV⟩ := h
  have hv : ¬ V r := fun q => hu (by rw [(h.2.1.1 r q).1]; exact nI_0le (by have := (h.1.1 r q).2; omega))
  exact wk_L hM hE hab (fun v fr to way dep abo pile nxt q => pc_some q) 600 1 fr to way (upd dep r 0) (upd abo r (-1)) (upd pile 0 (nI r)) (upd nxt 0 0) ⟨_, _, _, _, _, _, _, h.root hE hr hv, fun w hw => hw.imp_left (hV w)⟩
theorem walk60_pc {P : (Nat → Int32) × (Nat → Int32) × WS7 → Prop} {K : (Nat → Int32) → (Nat → Int32) → (Nat → Int32) → (Nat → Int32) → (Nat → Int32) → (Nat → Int32) → (Nat → Int32) → Option ((Nat → Int32) × (Nat → Int32) × WS7)} {M : Nat} (hM : M ≤ 40) {ad : Nat → Nat → Prop} {A B : Nat → Nat} (hE : ED M ad A B) {ma mb : Nat → Int32} (hab : ∀ e, e < M → ma e = nI (A e) ∧ mb e = nI (B e)) (hK : ∀ fr to way dep abo pile nxt, RS M ad A B (fun w => w < 11) 0 fr to way dep abo pile nxt → Pc (K fr to way dep abo pile nxt) P) : ∀ (n k : Nat) (fr to way dep abo pile nxt : Nat → Int32), k + n = 11 → RS M ad A B (fun w => w < k) 0 fr to way dep abo pile nxt → Pc (F_walkM_L60 K (nI M) ma mb n k fr to way dep abo pile nxt) P
  | 0, k, fr, to, way, dep, abo, pile, nxt, hk, h => by
    have : k = 11 := by omega
    subst this
    rw [F_walkM_L60]; exact hK _ _ _ _ _ _ _ h
  | n + 1, k, fr, to, way, dep, abo, pile, nxt, hk, h => by
    rw [F_walkM_L60]
    refine pc_if (fun hd => ?_) (fun hd => ?_)
    · refine walk60_pc hM hE hab hK n (k + 1) _ _ _ _ _ _ _ (by omega) ?_
      obtain ⟨V, par, D, F, G, pl, nx, h, hV⟩ := h
      refine ⟨V, par, D, F, G, pl, nx, h, fun w hw => ?_⟩
      have hw : w < k + 1 := hw
      by_cases c : w = k
      · subst c
        exact Classical.byContradiction (fun q => by
          rw [h.2.1.2 w (by omega) q] at hd
          exact absurd hd (by decide))
      · exact hV w (by show w < k; omega)
    · refine pc_bind (walkFrom_pc hM hE hab h (show k < 11 by omega) hd) (fun p hp => walk60_pc hM hE hab hK n (k + 1) _ _ _ _ _ _ _ (by omega) ?_)
      obtain ⟨V, par, D, F, G, pl, nx, h, hV⟩ := hp
      exact ⟨V, par, D, F, G, pl, nx, h, fun w hw => hV w (by have hw : w < k + 1 := hw; show w < k ∨ w = k; omega)⟩
theorem walk39_pc {K : (Nat → Int32) → Option ((Nat → Int32) × (Nat → Int32) × WS7)} {P : (Nat → Int32) × (Nat → Int32) × WS7 → Prop} (hK : ∀ dep, (∀ v, v < 11 → dep v = -1) → Pc (K dep) P) : ∀ (n k : Nat) (dep : Nat → Int32), k + n = 11 → (∀ v, v < k → dep v = -1) → Pc (F_walkM_L39 K n k dep) P
  | 0, k, dep, hk, h => by rw [F_walkM_L39]; exact hK dep (fun v hv => h v (by omega))
  | n + 1, k, dep, hk, h => by
    rw [F_walkM_L39]
    refine walk39_pc hK n (k + 1) _ (by omega) (fun v hv => ?_)
    by_cases c : v = k
    · rw [c, pk_us]
    · rw [pk_un c]; exact h v (by omega)
theorem walk2_pc {P : (Nat → Int32) × (Nat → Int32) × WS7 → Prop} {K : Int32 → (Nat → Int32) → (Nat → Int32) → (Nat → Int32) → Option ((Nat → Int32) × (Nat → Int32) × WS7)} {M : Nat} (hM : M ≤ 40) (hK : ∀ v way ld tu, (∀ e, e < M → way e = 0 ∧ ld e = nI e ∧ tu e = nI 0) → Pc (K v way ld tu) P) : ∀ (n j : Nat) (way ld tu : Nat → Int32), j ≤ M → (∀ e, e < j → way e = 0 ∧ ld e = nI e ∧ tu e = nI 0) → Pc (F_walkM_L2 K (nI M) n (nI j) way ld tu) P
  | 0, j, way, ld, tu, h1, h => fun r e => by rw [F_walkM_L2] at e; cases e
  | n + 1, j, way, ld, tu, h1, h => by
    rw [F_walkM_L2]
    refine pc_if (fun h9 => ?_) (fun h9 => ?_)
    · rw [nLe (by omega) (by omega)] at h9
      exact hK _ _ _ _ (fun e he => h e (by omega))
    · rw [nLe (by omega) (by omega)] at h9
      refine pc_th (fun _ => ?_)
      rw [nI_clamp (by omega), nI_add1]
      refine walk2_pc hM hK n (j + 1) _ _ _ (by omega) (fun e he => ?_)
      by_cases c : e = j
      · rw [c, pk_us, pk_us, pk_us]; exact ⟨rfl, rfl, rfl⟩
      · rw [pk_un c, pk_un c, pk_un c]; exact h e (by omega)
theorem RS.mw {M : Nat} {ad : Nat → Nat → Prop} {A B : Nat → Nat} (hE : ED M ad A B) {fr to way dep abo pile nxt : Nat → Int32} (h : RS M ad A B (fun w => w < 11) 0 fr to way dep abo pile nxt) : ∃ par D F G, MW M ad fr to way dep abo par D F G := by
  obtain ⟨V, par, D, F, G, pl, nx, h, hV⟩ := h
  have hF := h.fr hE
  obtain ⟨h1, h2, ⟨h3, h4, h5⟩, h6, ⟨h7, h8⟩, h9⟩ := h
  have nz : ∀ e, e < M → way e ≠ 0 := fun e he => by
    rcases h7 (A e) (hV _ (hE.1 e he).1) with ⟨i, hi, _⟩ | q
    · exact absurd hi (Nat.not_lt_zero _)
    · exact q e he (Or.inl rfl)
  have k6 : ∀ e, e < M → (fr e = nI (F e) ∧ to e = nI (G e) ∧ V (F e) ∧ V (G e)) ∧ ((A e = F e ∧ B e = G e) ∨ (A e = G e ∧ B e = F e)) ∧ ((way e = 1 ∧ par (G e) = F e ∧ 0 < D (G e)) ∨ (way e = 2 ∧ bk ad par D (G e) (F e))) := fun e he => (h6 e he).resolve_left (nz e he)
  refine ⟨par, D, F, G, fun e he => ?_, fun w hw => ?_, hF, fun e he => (k6 e he).2.2, fun e f he hf e1 e2 => ?_, h9, fun t s hb => ?_, fun a b hab => ?_⟩
  · obtain ⟨⟨z1, z2, z3, z4⟩, _⟩ := k6 e he
    exact ⟨(h1.1 _ z3).1, (h1.1 _ z4).1, z1, z2⟩
  · have v := hV w hw
    refine ⟨(h2.1 w v).1, (h1.1 w v).2, fun hd => ⟨(h2.1 w v).2 hd, (h1.1 _ (h1.2.2.1 w hd).2.2).1⟩⟩
  · refine hE.2.2 e f he hf ?_
    rcases (k6 e he).2.1 with ⟨a1, a2⟩ | ⟨a1, a2⟩ <;> rcases (k6 f hf).2.1 with ⟨b1, b2⟩ | ⟨b1, b2⟩ <;> rw [a1, a2, b1, b2, e1, e2]
    · exact Or.inl ⟨rfl, rfl⟩
    · exact Or.inr ⟨rfl, rfl⟩
    · exact Or.inr ⟨rfl, rfl⟩
    · exact Or.inl ⟨rfl, rfl⟩
  · obtain ⟨e, e1, e2⟩ := (hE.2.1 t s).mp hb.1
    obtain ⟨_, z1, z2⟩ := k6 e e1
    have hd := hb.2.2
    have c : (F e = s ∧ G e = t) ∨ (F e = t ∧ G e = s) := by
      rcases z1 with ⟨a1, a2⟩ | ⟨a1, a2⟩ <;> rcases e2 with ⟨b1, b2⟩ | ⟨b1, b2⟩ <;> rw [← a1, ← a2, b1, b2]
      · exact Or.inr ⟨rfl, rfl⟩
      · exact Or.inl ⟨rfl, rfl⟩
      · exact Or.inl ⟨rfl, rfl⟩
      · exact Or.inr ⟨rfl, rfl⟩
    rcases z2 with ⟨y1, y2, y3⟩ | ⟨y1, y2⟩
    · have d := (hF.2 _ y3).1
      rw [y2] at d
      rcases c with ⟨c1, c2⟩ | ⟨c1, c2⟩ <;> rw [c1, c2] at d <;> omega
    · rcases c with ⟨c1, c2⟩ | ⟨c1, c2⟩
      · exact ⟨e, e1, y1, c2, c1⟩
      · have d := y2.2.2
        rw [c1, c2] at d
        omega
  · obtain ⟨e, e1, e2⟩ := (hE.2.1 a b).mp hab
    obtain ⟨z1, z2, z3⟩ := hE.1 e e1
    have ha : a < 11 := by rcases e2 with ⟨q1, q2⟩ | ⟨q1, q2⟩ <;> omega
    have hb : b < 11 := by rcases e2 with ⟨q1, q2⟩ | ⟨q1, q2⟩ <;> omega
    exact ⟨hE.sy.1 a b hab, h1.2.2.2 a b (hV a ha) (hV b hb) hab⟩
theorem walk_pc {M : Nat} (hM : M ≤ 40) {ad : Nat → Nat → Prop} {A B : Nat → Nat} (hE : ED M ad A B) {ma mb : Nat → Int32} (hab : ∀ e, e < M → ma e = nI (A e) ∧ mb e = nI (B e)) {fr to way dep abo pile nxt ld tu : Nat → Int32} : Pc (F_walkM (nI M) ma mb fr to way dep abo pile nxt ld tu) (fun R => (∃ par D F G, MW M ad R.1 R.2.1 R.2.2.1 R.2.2.2.1 R.2.2.2.2.1 par D F G) ∧ ∀ e, e < M → R.2.2.2.2.2.2.2.1 e = nI e ∧ R.2.2.2.2.2.2.2.2 e = nI 0) := by
  refine walk2_pc hM (fun v way ld tu hl => walk39_pc (P := fun R => (∃ par D F G, MW M ad R.1 R.2.1 R.2.2.1 R.2.2.2.1 R.2.2.2.2.1 par D F G) ∧ ∀ e, e < M → R.2.2.2.2.2.2.2.1 e = nI e ∧ R.2.2.2.2.2.2.2.2 e = nI 0) (fun dep hd => walk60_pc hM hE hab (fun fr to way dep abo pile nxt q => pc_some ⟨q.mw hE, fun e he => (hl e he).2⟩) 11 0 _ _ _ _ _ _ _ rfl ?_) 11 0 _ rfl (fun v hv => absurd hv (Nat.not_lt_zero _))) 64 0 _ _ _ (Nat.zero_le _) (fun e he => absurd he (Nat.not_lt_zero _))
  refine ⟨fun _ => False, fun _ => 0, fun _ => 0, fun _ => 0, fun _ => 0, fun _ => 0, fun _ => 0, ⟨⟨fun w hw => hw.elim, fun _ _ => rfl, fun w hw => absurd hw (Nat.lt_irrefl _), fun u w hu => hu.elim⟩, ⟨fun w hw => hw.elim, fun w hw _ => hd w hw⟩, ⟨Nat.zero_le _, fun i hi => absurd hi (Nat.not_lt_zero _), fun i hi => absurd hi (Nat.not_lt_zero _)⟩, fun e he => Or.inl (hl e he).1, ⟨fun w hw => hw.elim, fun i hi => absurd hi (Nat.not_lt_zero _)⟩, fun w hw => absurd hw (Nat.lt_irrefl _)⟩, fun w hw => absurd hw (Nat.not_lt_zero _)⟩
theorem flat_sem {M : Nat} (hM : M ≤ 40) {ad : Nat → Nat → Prop} {A B : Nat → Nat} (hE : ED M ad A B) {ma mb : Nat → Int32} (hab : ∀ e, e < M → ma e = nI (A e) ∧ mb e = nI (B e)) {fr to way dep abo pile nxt ld tu : Nat → Int32} (h1 : FT fr to) : Ok (F_isFlatM (nI M) ma mb fr to way dep abo pile nxt ld tu) (fun R => (z01 R.1 ∧ FT R.2.1 R.2.2.1) ∧ (R.1 = 1 ↔ ZZ ad)) := by
  have hab' : ∀ e, e < M → (∃ x : Nat, x < 11 ∧ ma e = nI x) ∧ ∃ x : Nat, x < 11 ∧ mb e = nI x := fun e he => ⟨⟨A e, (hE.1 e he).1, (hab e he).1⟩, B e, (hE.1 e he).2.1, (hab e he).2⟩
  refine ok_and (flat_tot hM hab' h1) (ok_bind ((walk_tot_m hM hab' h1).and_pc (walk_pc hM hE hab)) (fun p hp => ?_))
  obtain ⟨_, ⟨par, D, F, G, hm⟩, hl⟩ := hp
  have hCu : ∀ la, Cu M p.2.2.2.2.2.2.2.1 p.2.2.2.2.2.2.2.2 la := fun la r u t hr hu ht e1 e2 hne => by
    rw [(hl r hr).1, nI_eq_iff (by omega) (by omega)] at e1
    exact absurd e1.symm hne
  refine flat8_sem hM hm (ld0 := p.2.2.2.2.2.2.2.1) (tu0 := p.2.2.2.2.2.2.2.2) (fun c d ld tu hc => ?_) 64 0 1 _ _ (Nat.zero_le _) (by omega) (Or.inr ⟨⟨⟨fun _ => 0, fun v _ => Nat.zero_le _, fun v hv => ⟨v, hv, (hl v hv).1, Or.inl rfl⟩⟩, fun r hr => ⟨0, by decide, (hl r hr).2⟩, fun r hr _ => (hl r hr).2, fun z => ⟨z, hCu z, fun _ _ _ => rfl⟩⟩, Or.inl ⟨rfl, fun la => ⟨fun q => ⟨q, fun e' f' q1 q2 q3 => absurd q3 (by omega)⟩, fun q => q.1⟩⟩⟩)
  rcases hc with ⟨c0, hn⟩ | ⟨c1, hy⟩
  · subst c0
    refine ok_th (by decide) (ok_some ⟨fun q => absurd (show (0 : Int32) = 1 from q) (by decide), fun q => ?_⟩)
    obtain ⟨la, hla⟩ := (PQ_ZZ hm).mpr q
    exact absurd hla (hn la (hCu la))
  · subst c1
    exact ok_th (by decide) (ok_some ⟨fun _ => (PQ_ZZ hm).mp hy, fun _ => rfl⟩)
