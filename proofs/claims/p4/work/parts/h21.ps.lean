def Ok {α : Type} (o : Option α) (P : α → Prop) : Prop := ∃ r, o = some r ∧ P r
theorem ok_some {α : Type} {a : α} {P : α → Prop} (h : P a) : Ok (some a) P := ⟨a, rfl, h⟩
theorem ok_bind {α β : Type} {o : Option α} {f : α → Option β} {Q : α → Prop} {P : β → Prop} (h : Ok o Q) (k : ∀ a, Q a → Ok (f a) P) : Ok (o.bind f) P := by
  obtain ⟨a, e, q⟩ := h
  rw [e]; exact k a q
theorem ok_if {α : Type} {c : Prop} [Decidable c] {a b : Option α} {P : α → Prop} (h1 : c → Ok a P) (h2 : ¬ c → Ok b P) : Ok (if c then a else b) P := by
  by_cases h : c
  · rw [if_pos h]; exact h1 h
  · rw [if_neg h]; exact h2 h
theorem ok_th {α : Type} {c : Prop} [Decidable c] {a : Option α} {P : α → Prop} (hc : c) (h : Ok a P) : Ok (if c then a else none) P := by
  rw [if_pos hc]; exact h
theorem ok_eq {α : Type} {o o' : Option α} {P : α → Prop} (e : o = o') (h : Ok o' P) : Ok o P := by rw [e]; exact h
theorem ok_mono {α : Type} {o : Option α} {Q P : α → Prop} (h : Ok o Q) (k : ∀ a, Q a → P a) : Ok o P := by
  obtain ⟨a, e, q⟩ := h
  exact ⟨a, e, k a q⟩
def HI (hi : Nat → Int32) : Prop := ∀ i, i < 121 → hi i ≤ 10
def LV (le mo : Nat → Int32) (lb : Int32) : Prop := ∀ l, l < 24 → bit lb l = true → ∃ a b : Nat, a < 10 ∧ b < 10 ∧ le l = nI a ∧ mo l = nI b
theorem LV.sub {le mo : Nat → Int32} {lb v : Int32} (h : LV le mo lb) (hs : ∀ l, bit v l = true → bit lb l = true) : LV le mo v := fun l hl hb => h l hl (hs l hb)
theorem and_sub {x y : Int32} (l : Nat) (h : bit (x &&& y) l = true) : bit x l = true := by
  rw [bit_and] at h
  cases hx : bit x l with
  | true => rfl
  | false => rw [hx, Bool.false_and] at h; exact absurd h (by decide)
theorem join_tot {w : Nat → Int32} {a b : Nat} (ha : a < 11) (hb : b < 11) : Ok (F_joinG w (nI a) (nI b)) (fun _ => True) :=
  ok_th (inb_nI ha (by decide)) (ok_th (inb_nI hb (by decide)) (ok_some trivial))
theorem spin_L {P : (Nat → Int32) → Prop} {K : (Nat → Int32) → Option (Nat → Int32)} {le mo : Nat → Int32} {v : Int32} (hv : LV le mo v) (hK : ∀ w, Ok (K w) P) : ∀ (n k : Nat) (w : Nat → Int32), k + n = 24 → Ok (F_spinG_L9 K le mo v n k w) P
  | 0, k, w, _ => by rw [F_spinG_L9]; exact hK w
  | n + 1, k, w, h => by
    rw [F_spinG_L9]
    refine ok_if (fun _ => spin_L hv hK n (k + 1) w (by omega)) (fun hb => ?_)
    obtain ⟨a, b, ha, hb2, e1, e2⟩ := hv k (by omega) (by
      cases hx : bit v k with
      | true => rfl
      | false => exact absurd ((has0_iff (by omega)).mpr hx) hb)
    rw [e1, e2]
    exact ok_bind (join_tot (by omega) (by omega)) (fun p _ => spin_L hv hK n (k + 1) p (by omega))
theorem spin_tot {le mo near : Nat → Int32} {v : Int32} (hv : LV le mo v) : Ok (F_spinG le mo near v) (fun _ => True) :=
  ok_bind (Q := fun _ => True) (ok_some trivial) (fun p _ => spin_L hv (fun w => ok_some trivial) 24 0 p rfl)
abbrev TX : Type := Int32 × (Nat → Int32) × Int32 × Int32 × (Nat → Int32) × (Nat → Int32) × (Nat → Int32) × (Nat → Int32) × (Nat → Int32) × (Nat → Int32)
def PH (R : TX) : Prop := HI R.2.2.2.2.2.2.2.1
theorem canDraw_tot {le mo near : Nat → Int32} {bl cl : Int32} {dep en re hi al op : Nat → Int32} {v : Int32} (hv : LV le mo v) (hh : HI hi) : Ok (F_canDrawG le mo near bl cl dep en re hi al op v) (fun R => PH R ∧ z01 R.1) :=
  ok_bind (spin_tot hv) (fun p _ => ok_bind (passes_tot bl cl dep en re hi al op p hh) (fun q hq => ok_some ⟨hq.2, hq.1⟩))
theorem canDrawWith_tot {le mo near : Nat → Int32} {bl cl : Int32} {dep en re hi al op : Nat → Int32} {v : Int32} {a b : Nat} (ha : a < 11) (hb : b < 11) (hv : LV le mo v) (hh : HI hi) : Ok (F_canDrawWithG v le mo near bl cl dep en re hi al op (nI a) (nI b)) (fun R => PH R ∧ z01 R.1) :=
  ok_bind (spin_tot hv) (fun p _ => ok_bind (join_tot ha hb) (fun p2 _ => ok_bind (passes_tot bl cl dep en re hi al op p2 hh) (fun q hq => ok_some ⟨hq.2, hq.1⟩)))
theorem forb_L {P : TX → Prop} {K : Int32 → (Nat → Int32) → Int32 → Int32 → (Nat → Int32) → (Nat → Int32) → (Nat → Int32) → (Nat → Int32) → (Nat → Int32) → (Nat → Int32) → Option TX} {le mo : Nat → Int32} {lb : Int32} (hv : LV le mo lb) (hK : ∀ v near bl cl dep en re hi al op, (∀ l, bit v l = true → bit lb l = true) → HI hi → Ok (K v near bl cl dep en re hi al op) P) : ∀ (n k : Nat) (v : Int32) (near : Nat → Int32) (bl cl : Int32) (dep en re hi al op : Nat → Int32), (∀ l, bit v l = true → bit lb l = true) → HI hi → Ok (F_forbiddenG_L20 K le mo n k v near bl cl dep en re hi al op) P
  | 0, k, v, near, bl, cl, dep, en, re, hi, al, op, hs, hh => by rw [F_forbiddenG_L20]; exact hK v near bl cl dep en re hi al op hs hh
  | n + 1, k, v, near, bl, cl, dep, en, re, hi, al, op, hs, hh => by
    rw [F_forbiddenG_L20]
    have hs2 : ∀ l, bit (v &&& ((((1 : Int32)) <<< ((nI k) &&& 31)) ^^^ ((-1)))) l = true → bit lb l = true := fun l h => hs l (and_sub l h)
    exact ok_bind (canDraw_tot (hv.sub hs2) hh) (fun p hp => ok_if (fun _ => forb_L hv hK n (k + 1) _ _ _ _ _ _ _ _ _ _ hs2 hp.1) (fun _ => forb_L hv hK n (k + 1) _ _ _ _ _ _ _ _ _ _ hs hp.1))
theorem forb_tot {le mo near : Nat → Int32} {bl cl : Int32} {dep en re hi al op : Nat → Int32} {lb : Int32} (hv : LV le mo lb) (hh : HI hi) : Ok (F_forbiddenG lb le mo near bl cl dep en re hi al op) (fun R => PH R ∧ ∀ l, bit R.1 l = true → bit lb l = true) :=
  ok_bind (canDraw_tot hv hh) (fun p hp => ok_if (fun _ => forb_L hv (fun v near bl cl dep en re hi al op hs h2 => ok_some ⟨h2, hs⟩) 24 0 _ _ _ _ _ _ _ _ _ _ (fun l h => h) hp.1) (fun _ => ok_some ⟨hp.1, fun l h => by rw [bit_zero] at h; exact absurd h (by decide)⟩))
theorem corn_L {K : Int32 → Option (Int32 × (Nat → Int32))} {P : Int32 × (Nat → Int32) → Prop} {near : Nat → Int32} (hK : ∀ v, Ok (K v) P) : ∀ (n k : Nat) (v : Int32), k + n = 10 → Ok (F_cornersOfG_L9 K near n k v) P
  | 0, k, v, _ => by rw [F_cornersOfG_L9]; exact hK v
  | n + 1, k, v, h => by
    rw [F_cornersOfG_L9, degree_eq (by omega), Option.bind_some]
    exact ok_if (fun _ => corn_L hK n (k + 1) _ (by omega)) (fun _ => corn_L hK n (k + 1) _ (by omega))
theorem corn_tot {le mo near : Nat → Int32} {v : Int32} (hv : LV le mo v) : Ok (F_cornersOfG le mo near v) (fun _ => True) :=
  ok_bind (spin_tot hv) (fun p _ => corn_L (fun v => ok_some trivial) 10 0 0 rfl)
theorem nth_L {v m : Int32} : ∀ (n k : Nat) (w : Int32), k + n = 10 → Ok (F_nthOfG_L4 (fun _ => some (-1)) v m n k w) (fun r => r = -1 ∨ ∃ i, i < 10 ∧ r = nI i)
  | 0, k, w, _ => by rw [F_nthOfG_L4]; exact ok_some (Or.inl rfl)
  | n + 1, k, w, h => by
    rw [F_nthOfG_L4]
    exact ok_if (fun _ => nth_L n (k + 1) w (by omega)) (fun _ => ok_if (fun _ => ok_some (Or.inr ⟨k, by omega, rfl⟩)) (fun _ => nth_L n (k + 1) _ (by omega)))
theorem nth_tot (v m : Int32) : Ok (F_nthOfG v m) (fun r => r = -1 ∨ ∃ i, i < 10 ∧ r = nI i) := nth_L 10 0 0 rfl
theorem reach28_L {K : Int32 → Option Int32} {near : Nat → Int32} {f : Int32} {P : Int32 → Prop} (hK : ∀ v, Ok (K v) P) : ∀ (n k : Nat) (v : Int32), Ok (F_reachG_L28 K near f n k v) P
  | 0, k, v => by rw [F_reachG_L28]; exact hK v
  | n + 1, k, v => by rw [F_reachG_L28]; exact ok_if (fun _ => reach28_L hK n (k + 1) _) (fun _ => reach28_L hK n (k + 1) _)
theorem reach10_L {K : Int32 → Int32 → Option Int32} {near : Nat → Int32} {f : Int32} {P : Int32 → Prop} (hK : ∀ v w, Ok (K v w) P) : ∀ (n k : Nat) (v w : Int32), Ok (F_reachG_L10 K near f n k v w) P
  | 0, k, v, w => by rw [F_reachG_L10]; exact hK v w
  | n + 1, k, v, w => by rw [F_reachG_L10]; exact ok_if (fun _ => hK v w) (fun _ => reach28_L (fun u => reach10_L hK n (k + 1) _ _) 11 0 0)
theorem reach_tot (near : Nat → Int32) (v f : Int32) : Ok (F_reachG near v f) (fun _ => True) := reach10_L (fun _ _ => ok_some trivial) 11 0 _ _
theorem facing_tot {le mo near : Nat → Int32} {v w : Int32} (hv : LV le mo v) : Ok (F_facingG le mo near v w) (fun _ => True) :=
  ok_bind (spin_tot hv) (fun p _ => ok_bind (nth_tot w 0) (fun q _ => ok_if (fun _ => ok_some trivial) (fun _ => ok_bind (reach_tot p q _) (fun r _ => ok_some trivial))))
theorem one_L {P : TX → Prop} {K : (Nat → Int32) → Int32 → Int32 → (Nat → Int32) → (Nat → Int32) → (Nat → Int32) → (Nat → Int32) → (Nat → Int32) → (Nat → Int32) → Option TX} {le mo : Nat → Int32} {lb : Int32} (hv : LV le mo lb) (hP : ∀ R : TX, PH R → P (1, R.2.1, R.2.2.1, R.2.2.2.1, R.2.2.2.2.1, R.2.2.2.2.2.1, R.2.2.2.2.2.2.1, R.2.2.2.2.2.2.2.1, R.2.2.2.2.2.2.2.2.1, R.2.2.2.2.2.2.2.2.2)) (hK : ∀ near bl cl dep en re hi al op, HI hi → Ok (K near bl cl dep en re hi al op) P) : ∀ (n k : Nat) (near : Nat → Int32) (bl cl : Int32) (dep en re hi al op : Nat → Int32), HI hi → Ok (F_oneG_L2 K lb le mo n k near bl cl dep en re hi al op) P
  | 0, k, near, bl, cl, dep, en, re, hi, al, op, hh => by rw [F_oneG_L2]; exact hK near bl cl dep en re hi al op hh
  | n + 1, k, near, bl, cl, dep, en, re, hi, al, op, hh => by
    rw [F_oneG_L2]
    exact ok_if (fun _ => one_L hv hP hK n (k + 1) _ _ _ _ _ _ _ _ _ hh) (fun _ => ok_bind (canDraw_tot (hv.sub (fun l h => and_sub l h)) hh) (fun p hp => ok_if (fun _ => one_L hv hP hK n (k + 1) _ _ _ _ _ _ _ _ _ hp.1) (fun _ => ok_some (hP p hp.1))))
theorem one_tot {le mo near : Nat → Int32} {bl cl : Int32} {dep en re hi al op : Nat → Int32} {lb : Int32} (hv : LV le mo lb) (hh : HI hi) : Ok (F_oneG lb le mo near bl cl dep en re hi al op) PH :=
  one_L hv (fun R h => h) (fun near bl cl dep en re hi al op h2 => ok_some h2) 24 0 _ _ _ _ _ _ _ _ _ hh
theorem two12_L {P : TX → Prop} {K : (Nat → Int32) → Int32 → Int32 → (Nat → Int32) → (Nat → Int32) → (Nat → Int32) → (Nat → Int32) → (Nat → Int32) → (Nat → Int32) → Option TX} {le mo : Nat → Int32} {lb : Int32} {k2 : Nat} (hv : LV le mo lb) (hP : ∀ R : TX, PH R → P (1, R.2.1, R.2.2.1, R.2.2.2.1, R.2.2.2.2.1, R.2.2.2.2.2.1, R.2.2.2.2.2.2.1, R.2.2.2.2.2.2.2.1, R.2.2.2.2.2.2.2.2.1, R.2.2.2.2.2.2.2.2.2)) (hK : ∀ near bl cl dep en re hi al op, HI hi → Ok (K near bl cl dep en re hi al op) P) : ∀ (n k : Nat) (near : Nat → Int32) (bl cl : Int32) (dep en re hi al op : Nat → Int32), HI hi → Ok (F_twoG_L12 K lb le mo k2 n k near bl cl dep en re hi al op) P
  | 0, k, near, bl, cl, dep, en, re, hi, al, op, hh => by rw [F_twoG_L12]; exact hK near bl cl dep en re hi al op hh
  | n + 1, k, near, bl, cl, dep, en, re, hi, al, op, hh => by
    rw [F_twoG_L12]
    exact ok_if (fun _ => two12_L hv hP hK n (k + 1) _ _ _ _ _ _ _ _ _ hh) (fun _ => ok_if (fun _ => two12_L hv hP hK n (k + 1) _ _ _ _ _ _ _ _ _ hh) (fun _ => ok_bind (canDraw_tot (hv.sub (fun l h => and_sub l (and_sub l h))) hh) (fun p hp => ok_if (fun _ => two12_L hv hP hK n (k + 1) _ _ _ _ _ _ _ _ _ hp.1) (fun _ => ok_some (hP p hp.1)))))
theorem two2_L {P : TX → Prop} {K : (Nat → Int32) → Int32 → Int32 → (Nat → Int32) → (Nat → Int32) → (Nat → Int32) → (Nat → Int32) → (Nat → Int32) → (Nat → Int32) → Option TX} {le mo : Nat → Int32} {lb : Int32} (hv : LV le mo lb) (hP : ∀ R : TX, PH R → P (1, R.2.1, R.2.2.1, R.2.2.2.1, R.2.2.2.2.1, R.2.2.2.2.2.1, R.2.2.2.2.2.2.1, R.2.2.2.2.2.2.2.1, R.2.2.2.2.2.2.2.2.1, R.2.2.2.2.2.2.2.2.2)) (hK : ∀ near bl cl dep en re hi al op, HI hi → Ok (K near bl cl dep en re hi al op) P) : ∀ (n k : Nat) (near : Nat → Int32) (bl cl : Int32) (dep en re hi al op : Nat → Int32), HI hi → Ok (F_twoG_L2 K lb le mo n k near bl cl dep en re hi al op) P
  | 0, k, near, bl, cl, dep, en, re, hi, al, op, hh => by rw [F_twoG_L2]; exact hK near bl cl dep en re hi al op hh
  | n + 1, k, near, bl, cl, dep, en, re, hi, al, op, hh => by
    rw [F_twoG_L2]
    exact two12_L hv hP (fun near bl cl dep en re hi al op h2 => two2_L hv hP hK n (k + 1) _ _ _ _ _ _ _ _ _ h2) _ _ _ _ _ _ _ _ _ _ _ hh
theorem two_tot {le mo near : Nat → Int32} {bl cl : Int32} {dep en re hi al op : Nat → Int32} {lb : Int32} (hv : LV le mo lb) (hh : HI hi) : Ok (F_twoG lb le mo near bl cl dep en re hi al op) PH :=
  two2_L hv (fun R h => h) (fun near bl cl dep en re hi al op h2 => ok_some h2) 24 0 _ _ _ _ _ _ _ _ _ hh
theorem spare_tot {le mo near : Nat → Int32} {bl cl : Int32} {dep en re hi al op : Nat → Int32} {lb : Int32} (hv : LV le mo lb) (hh : HI hi) : Ok (F_spareG lb le mo near bl cl dep en re hi al op) PH :=
  ok_bind (canDraw_tot hv hh) (fun p hp => ok_if (fun _ => ok_bind (one_tot hv hp.1) (fun q hq => ok_if (fun _ => ok_bind (two_tot hv hq) (fun r hr => ok_if (fun _ => ok_some hr) (fun _ => ok_some hr))) (fun _ => ok_some hq))) (fun _ => ok_some hp.1))
theorem pieces_L {K : Int32 → Int32 → Option (Int32 × (Nat → Int32))} {P : Int32 × (Nat → Int32) → Prop} {near : Nat → Int32} {v1 : Int32} (hK : ∀ v w, Ok (K v w) P) : ∀ (n k : Nat) (v w : Int32), Ok (F_countPiecesG_L13 K v1 near n k v w) P
  | 0, k, v, w => by rw [F_countPiecesG_L13]; exact hK v w
  | n + 1, k, v, w => by
    rw [F_countPiecesG_L13]
    exact ok_bind (Q := fun _ => True) (ok_if (fun _ => ok_some trivial) (fun _ => ok_if (fun _ => ok_bind (reach_tot near _ _) (fun _ _ => ok_some trivial)) (fun _ => ok_some trivial))) (fun p _ => pieces_L hK n (k + 1) _ _)
theorem pieces_tot {le mo near : Nat → Int32} {v w : Int32} (hv : LV le mo w) : Ok (F_countPiecesG le mo near v w) (fun _ => True) :=
  ok_bind (spin_tot hv) (fun p _ => pieces_L (fun _ _ => ok_some trivial) 10 0 0 0)
theorem room14_L {P : TX → Prop} {K : Int32 → (Nat → Int32) → Int32 → Int32 → (Nat → Int32) → (Nat → Int32) → (Nat → Int32) → (Nat → Int32) → (Nat → Int32) → (Nat → Int32) → Option TX} {le mo : Nat → Int32} {nb lb : Int32} {k4 : Nat} (h4 : k4 < 10) (hv : LV le mo lb) (hK : ∀ v near bl cl dep en re hi al op, HI hi → Ok (K v near bl cl dep en re hi al op) P) : ∀ (n k : Nat) (v : Int32) (near : Nat → Int32) (bl cl : Int32) (dep en re hi al op : Nat → Int32), k + n = 10 → HI hi → Ok (F_roomG_L14 K nb lb le mo k4 n k v near bl cl dep en re hi al op) P
  | 0, k, v, near, bl, cl, dep, en, re, hi, al, op, _, hh => by rw [F_roomG_L14]; exact hK v near bl cl dep en re hi al op hh
  | n + 1, k, v, near, bl, cl, dep, en, re, hi, al, op, hk, hh => by
    rw [F_roomG_L14]
    refine ok_bind (Q := fun (R : TX) => PH R) (ok_if (fun _ => ok_some hh) (fun _ => ok_if (fun _ => ok_some hh) (fun _ => ?_))) (fun p hp => room14_L h4 hv hK n (k + 1) _ _ _ _ _ _ _ _ _ _ (by omega) hp)
    refine ok_bind (Q := fun _ => True) (by
      rcases joined_eq lb le mo (nI k4) (nI k) with h | h
      · exact ⟨_, h.1, trivial⟩
      · exact ⟨_, h.1, trivial⟩) (fun q _ => ok_if (fun _ => ?_) (fun _ => ok_some hh))
    exact ok_bind (canDrawWith_tot (by omega) (by omega) hv hh) (fun r hr => ok_if (fun _ => ok_some hr.1) (fun _ => ok_some hr.1))
theorem room4_L {P : TX → Prop} {K : Int32 → (Nat → Int32) → Int32 → Int32 → (Nat → Int32) → (Nat → Int32) → (Nat → Int32) → (Nat → Int32) → (Nat → Int32) → (Nat → Int32) → Option TX} {le mo : Nat → Int32} {nb lb : Int32} (hv : LV le mo lb) (hK : ∀ v near bl cl dep en re hi al op, HI hi → Ok (K v near bl cl dep en re hi al op) P) : ∀ (n k : Nat) (v : Int32) (near : Nat → Int32) (bl cl : Int32) (dep en re hi al op : Nat → Int32), k + n = 10 → HI hi → Ok (F_roomG_L4 K nb lb le mo n k v near bl cl dep en re hi al op) P
  | 0, k, v, near, bl, cl, dep, en, re, hi, al, op, _, hh => by rw [F_roomG_L4]; exact hK v near bl cl dep en re hi al op hh
  | n + 1, k, v, near, bl, cl, dep, en, re, hi, al, op, hk, hh => by
    rw [F_roomG_L4]
    exact room14_L (by omega) hv (fun v near bl cl dep en re hi al op h2 => room4_L hv hK n (k + 1) _ _ _ _ _ _ _ _ _ _ (by omega) h2) _ _ _ _ _ _ _ _ _ _ _ _ (by omega) hh
theorem room_tot {le mo near : Nat → Int32} {bl cl : Int32} {dep en re hi al op : Nat → Int32} {nb lb : Int32} (hv : LV le mo lb) (hh : HI hi) : Ok (F_roomG nb lb le mo near bl cl dep en re hi al op) PH :=
  room4_L hv (fun v near bl cl dep en re hi al op h2 => ok_some h2) 10 0 _ _ _ _ _ _ _ _ _ _ rfl hh
theorem witness_tot {le mo near : Nat → Int32} {bl cl : Int32} {dep en re hi al op : Nat → Int32} {lb : Int32} (hv : LV le mo lb) (hh : HI hi) : Ok (F_witnessG lb le mo near bl cl dep en re hi al op) PH :=
  ok_bind (forb_tot hv hh) (fun p hp => ok_if (fun _ => ok_some hp.1) (fun _ => ok_bind (corn_tot (hv.sub hp.2)) (fun q _ => ok_if (fun _ => ok_some hp.1) (fun _ => ok_some hp.1))))
theorem pattern_tot {le mo near : Nat → Int32} {bl cl : Int32} {dep en re hi al op : Nat → Int32} {lb : Int32} (hv : LV le mo lb) (hh : HI hi) : Ok (F_patternG lb le mo near bl cl dep en re hi al op) PH :=
  ok_bind (forb_tot hv hh) (fun p hp => ok_some hp.1)
theorem drawable_tot {le mo near : Nat → Int32} {bl cl : Int32} {dep en re hi al op : Nat → Int32} {lb : Int32} (hv : LV le mo lb) (hh : HI hi) : Ok (F_drawableG lb le mo near bl cl dep en re hi al op) PH :=
  ok_bind (canDraw_tot hv hh) (fun p hp => ok_some hp.1)
theorem isFree_L {sh near : Nat → Int32} {c : Int32} {i : Nat} (hi : i < 10) : ∀ (n j : Nat), j ≤ i → i < j + n → Ok (F_isFreeG_L3 (fun _ => some 1) sh near c (nI i) n (nI j)) (fun _ => True)
  | 0, j, h1, h2 => by omega
  | n + 1, j, h1, h2 => by
    rw [F_isFreeG_L3, neigh_eq (by omega), Option.bind_some]
    refine ok_if (fun _ => ok_some trivial) (fun h => ?_)
    have hj : j < i := by
      rw [nLe (by omega) (by omega)] at h
      omega
    rw [nI_add1]
    exact ok_if (fun _ => isFree_L hi n (j + 1) (by omega) (by omega)) (fun _ => ok_th (inb_nI (by omega) (by decide)) (ok_if (fun _ => ok_some trivial) (fun _ => isFree_L hi n (j + 1) (by omega) (by omega))))
theorem isFree_tot {sh near : Nat → Int32} {c : Int32} {i : Nat} (hi : i < 10) : Ok (F_isFreeG sh near c (nI i)) (fun _ => True) := isFree_L hi 64 0 (Nat.zero_le _) (by omega)
theorem hasLater_tot {near : Nat → Int32} {i : Nat} (hi : i < 10) : Ok (F_hasLaterG near (nI i)) (fun _ => True) := by
  unfold F_hasLaterG
  rw [neigh_eq (by omega), Option.bind_some]
  exact ok_if (fun _ => ok_some trivial) (fun _ => ok_some trivial)
theorem paint_L {th : Int32} {al : Nat} (hal : al ≤ 10) {near : Nat → Int32} {i : Nat} (hi : i < 10) {v3 : Int32} {rec_ : Int32 → Int32 → (Nat → Int32) → (Nat → Int32) → Int32 → Int32 → Option (Int32 × (Nat → Int32))} (hrec : ∀ sh u, Ok (rec_ th (nI al) sh near (nI (i + 1)) u) (fun _ => True)) : ∀ (n c : Nat) (sh : Nat → Int32), c ≤ al → al < c + n → Ok (F_paintFromR_L32 (fun _ s => some (0, s)) th (nI al) near (nI i) v3 rec_ n (nI c) sh) (fun _ => True)
  | 0, c, sh, h1, h2 => by omega
  | n + 1, c, sh, h1, h2 => by
    rw [F_paintFromR_L32]
    refine ok_if (fun _ => ok_some trivial) (fun _ => ok_if (fun _ => ok_some trivial) (fun h => ?_))
    have hc : c < al := by
      rw [nLe (by omega) (by omega)] at h
      omega
    rw [nI_add1, nI_add1]
    refine ok_bind (isFree_tot hi) (fun p _ => ok_if (fun _ => paint_L hal hi hrec n (c + 1) sh (by omega) (by omega)) (fun _ => ok_th (inb_nI hi (by decide)) (ok_bind (hrec _ _) (fun q _ => ok_if (fun _ => ok_bind (hasLater_tot hi) (fun r _ => ok_if (fun _ => ok_some trivial) (fun _ => paint_L hal hi hrec n (c + 1) _ (by omega) (by omega)))) (fun _ => ok_some trivial)))))
theorem paint_tot {th : Int32} {al : Nat} (hal : al ≤ 10) {near : Nat → Int32} : ∀ (f i : Nat), i + f = 11 → 0 < f → ∀ (sh : Nat → Int32) (u : Int32), Ok (F_paintFromR f th (nI al) sh near (nI i) u) (fun _ => True)
  | 0, i, _, h0, _, _ => absurd h0 (by decide)
  | f + 1, i, hif, _, sh, u => by
    rw [F_paintFromR]
    refine ok_if (fun h => ?_) (fun _ => ok_some trivial)
    have h10 : i < 10 := (nLt (b := 10) (by omega) (by decide)).mp h
    refine ok_if (fun _ => ?_) (fun _ => paint_L hal h10 (fun sh u => paint_tot hal f (i + 1) (by omega) (by omega) sh u) 64 0 sh (Nat.zero_le _) (by omega))
    rw [nI_add1]
    exact ok_bind (paint_tot hal f (i + 1) (by omega) (by omega) sh u) (fun _ _ => ok_some trivial)
theorem least_L {near : Nat → Int32} {th : Int32} : ∀ (n c : Nat) (a : Int32) (sh : Nat → Int32), c ≤ 11 → 11 < c + n → Ok (F_paintLeastG_L7 (fun _ a s => some (10, th, a, s)) near th n (nI c) a sh) (fun _ => True)
  | 0, c, a, sh, h1, h2 => by omega
  | n + 1, c, a, sh, h1, h2 => by
    rw [F_paintLeastG_L7]
    refine ok_if (fun _ => ok_some trivial) (fun h => ?_)
    have hc : c ≤ 10 := by
      have h : ¬ nI 10 < nI c := h
      rw [nLt (by decide) (by omega)] at h
      omega
    rw [nI_add1]
    exact ok_bind (paint_tot hc 11 0 rfl (by decide) sh _) (fun p _ => ok_if (fun _ => least_L n (c + 1) _ _ (by omega) (by omega)) (fun _ => ok_some trivial))
theorem least_tot (a : Int32) (sh near : Nat → Int32) (th : Int32) : Ok (F_paintLeastG a sh near th) (fun _ => True) := least_L 64 0 a sh (by omega) (by omega)
