/-- a search over wires: how far each cell is (-1: not reached), the cells reached in their order, how many these are -/
abbrev Bs : Type := (Int → Int → Int) × (Nat → Int) × (Nat → Int) × Nat
def up2 (m : Int → Int → Int) (X Y v : Int) : Int → Int → Int := fun a b => if a = X ∧ b = Y then v else m a b
theorem up2_s {m : Int → Int → Int} {X Y v : Int} : up2 m X Y v X Y = v := if_pos ⟨rfl, rfl⟩
theorem up2_n {m : Int → Int → Int} {X Y v a b : Int} (h : ¬(a = X ∧ b = Y)) : up2 m X Y v a b = m a b := if_neg h
def visG (g : Int → Int → Int) (way X Y : Int) (t : Bs) : Bs := if g X Y = 0 ∨ t.1 X Y ≠ -1 then t else (up2 t.1 X Y way, upZ t.2.1 t.2.2.2 X, upZ t.2.2.1 t.2.2.2 Y, t.2.2.2 + 1)
theorem visG_skip {g : Int → Int → Int} {way X Y : Int} {t : Bs} (h : g X Y = 0 ∨ t.1 X Y ≠ -1) : visG g way X Y t = t := if_pos h
theorem visG_new {g : Int → Int → Int} {way X Y : Int} {t : Bs} (h : g X Y ≠ 0) (h2 : t.1 X Y = -1) : visG g way X Y t = (up2 t.1 X Y way, upZ t.2.1 t.2.2.2 X, upZ t.2.2.1 t.2.2.2 Y, t.2.2.2 + 1) := if_neg (fun q => q.elim h (fun z => z h2))
def dirG (g : Int → Int → Int) (way X Y : Int) : Nat → Bs → Bs
  | 0, t => t
  | d + 1, t => visG g way (X + dX d) (Y + dY d) (dirG g way X Y d t)
def popG (g : Int → Int → Int) (i : Nat) (t : Bs) : Bs := dirG g (t.1 (t.2.1 i) (t.2.2.1 i) + 1) (t.2.1 i) (t.2.2.1 i) 8 t
def bfsI (g : Int → Int → Int) (X Y : Int) (m0 : Int → Int → Int) : Nat → Bs
  | 0 => visG g 0 X Y (m0, fun _ => 0, fun _ => 0, 0)
  | i + 1 => if i < (bfsI g X Y m0 i).2.2.2 then popG g i (bfsI g X Y m0 i) else bfsI g X Y m0 i
def bfsG (g : Int → Int → Int) (X Y : Int) (m0 : Int → Int → Int) : Bs := bfsI g X Y m0 100
theorem bfsI_s {g : Int → Int → Int} {X Y : Int} {m0 : Int → Int → Int} {i : Nat} (h : i < (bfsI g X Y m0 i).2.2.2) : bfsI g X Y m0 (i + 1) = popG g i (bfsI g X Y m0 i) := by rw [bfsI, if_pos h]
theorem bfsI_stay {g : Int → Int → Int} {X Y : Int} {m0 : Int → Int → Int} {i : Nat} (h : (bfsI g X Y m0 i).2.2.2 ≤ i) : ∀ n, bfsI g X Y m0 (i + n) = bfsI g X Y m0 i
  | 0 => rfl
  | n + 1 => by
    have e := bfsI_stay h n
    rw [show i + (n + 1) = i + n + 1 from rfl, bfsI, e, if_neg (by omega)]
theorem bfs_done {g : Int → Int → Int} {X Y : Int} {m0 : Int → Int → Int} {i : Nat} (h : (bfsI g X Y m0 i).2.2.2 ≤ i) (hi : i ≤ 100) : bfsG g X Y m0 = bfsI g X Y m0 i := by
  have := bfsI_stay h (100 - i)
  rw [show i + (100 - i) = 100 by omega] at this
  exact this
/-- outside the board all is empty -/
def outG (w h : Nat) (g : Int → Int → Int) : Prop := ∀ x y, g x y ≠ 0 → 0 ≤ x ∧ x < w ∧ 0 ≤ y ∧ y < h
def okB (w h : Nat) (t : Bs) : Prop := (∀ j, j < t.2.2.2 → 0 ≤ t.2.1 j ∧ t.2.1 j < w ∧ 0 ≤ t.2.2.1 j ∧ t.2.2.1 j < h ∧ 0 ≤ t.1 (t.2.1 j) (t.2.2.1 j) ∧ t.1 (t.2.1 j) (t.2.2.1 j) ≤ j) ∧ (∀ i j, i < j → j < t.2.2.2 → ¬(t.2.1 i = t.2.1 j ∧ t.2.2.1 i = t.2.2.1 j)) ∧ ∀ x y, -1 ≤ t.1 x y ∧ t.1 x y ≤ 100
theorem idx_inj {w : Nat} {a b c d : Int} (ha : 0 ≤ a) (ha2 : a < w) (hc : 0 ≤ c) (hc2 : c < w) (hb : 0 ≤ b) (hd : 0 ≤ d) (e : (w : Int) * b + a = w * d + c) : a = c ∧ b = d := by
  obtain ⟨a, rfl⟩ := Int.eq_ofNat_of_zero_le ha
  obtain ⟨b, rfl⟩ := Int.eq_ofNat_of_zero_le hb
  obtain ⟨c, rfl⟩ := Int.eq_ofNat_of_zero_le hc
  obtain ⟨d, rfl⟩ := Int.eq_ofNat_of_zero_le hd
  have e2 : w * b + a = w * d + c := by exact_mod_cast e
  have h1 := mod_xy (w := w) (i := a) (j := b) (by omega)
  have h2 := mod_xy (w := w) (i := c) (j := d) (by omega)
  rw [e2] at h1
  constructor
  · rw [← h1.1, h2.1]
  · rw [← h1.2, h2.2]
/-- the cells reached are no more than the board has; one that is not reached yet leaves room for one more -/
theorem okB_len {w h : Nat} {t : Bs} (o : okB w h t) : t.2.2.2 ≤ w * h := by
  refine fb_holes (w * h) t.2.2.2 (fun j => ((w : Int) * t.2.2.1 j + t.2.1 j).toNat) (fun i hi => ?_) (fun i j hij hj e => ?_)
  · obtain ⟨h1, h2, h3, h4, -⟩ := o.1 i hi
    have := idx_lt h1 h2 h3 h4
    omega
  · obtain ⟨h1, h2, h3, h4, -⟩ := o.1 i (by omega)
    obtain ⟨k1, k2, k3, k4, -⟩ := o.1 j hj
    have a1 := idx_lt h1 h2 h3 h4
    have a2 := idx_lt k1 k2 k3 k4
    exact o.2.1 i j hij hj (idx_inj h1 h2 k1 k2 h3 k3 (by omega))
theorem okB_room {w h : Nat} {t : Bs} (o : okB w h t) {X Y : Int} (hX : 0 ≤ X) (hX2 : X < w) (hY : 0 ≤ Y) (hY2 : Y < h) (hm : t.1 X Y = -1) : t.2.2.2 + 1 ≤ w * h := by
  refine fb_holes (w * h) (t.2.2.2 + 1) (fun j => if j < t.2.2.2 then ((w : Int) * t.2.2.1 j + t.2.1 j).toNat else ((w : Int) * Y + X).toNat) (fun i hi => ?_) (fun i j hij hj e => ?_)
  · by_cases q : i < t.2.2.2
    · rw [if_pos q]
      obtain ⟨h1, h2, h3, h4, -⟩ := o.1 i q
      have := idx_lt h1 h2 h3 h4
      omega
    · rw [if_neg q]
      have := idx_lt hX hX2 hY hY2
      omega
  · have qi : i < t.2.2.2 := by omega
    rw [if_pos qi] at e
    obtain ⟨h1, h2, h3, h4, h5, -⟩ := o.1 i qi
    have a1 := idx_lt h1 h2 h3 h4
    by_cases q : j < t.2.2.2
    · rw [if_pos q] at e
      obtain ⟨k1, k2, k3, k4, -⟩ := o.1 j q
      have a2 := idx_lt k1 k2 k3 k4
      exact o.2.1 i j hij q (idx_inj h1 h2 k1 k2 h3 k3 (by omega))
    · rw [if_neg q] at e
      have a2 := idx_lt hX hX2 hY hY2
      obtain ⟨e1, e2⟩ := idx_inj h1 h2 hX hX2 h3 hY (by omega)
      rw [e1, e2, hm] at h5
      omega
theorem vis_all {w h : Nat} {g : Int → Int → Int} {t : Bs} {way X Y : Int} (hg : outG w h g) (hs : w * h ≤ 100) (o : okB w h t) (hw : 0 ≤ way) (hw2 : way ≤ t.2.2.2) : okB w h (visG g way X Y t) ∧ t.2.2.2 ≤ (visG g way X Y t).2.2.2 ∧ ∀ j, j < t.2.2.2 → (visG g way X Y t).2.1 j = t.2.1 j ∧ (visG g way X Y t).2.2.1 j = t.2.2.1 j ∧ (visG g way X Y t).1 (t.2.1 j) (t.2.2.1 j) = t.1 (t.2.1 j) (t.2.2.1 j) := by
  by_cases q : g X Y = 0 ∨ t.1 X Y ≠ -1
  · rw [visG_skip q]
    exact ⟨o, Nat.le_refl _, fun j _ => ⟨rfl, rfl, rfl⟩⟩
  · have q1 : g X Y ≠ 0 := fun z => q (Or.inl z)
    have q2 : t.1 X Y = -1 := Decidable.byContradiction fun z => q (Or.inr z)
    rw [visG_new q1 q2]
    obtain ⟨b1, b2, b3, b4⟩ := hg X Y q1
    have hr := okB_room o b1 b2 b3 b4 q2
    have key : ∀ j, j < t.2.2.2 → ¬(t.2.1 j = X ∧ t.2.2.1 j = Y) := by
      intro j hj e
      have := (o.1 j hj).2.2.2.2.1
      rw [e.1, e.2, q2] at this
      omega
    have sm : ∀ j, j < t.2.2.2 → upZ t.2.1 t.2.2.2 X j = t.2.1 j ∧ upZ t.2.2.1 t.2.2.2 Y j = t.2.2.1 j ∧ up2 t.1 X Y way (t.2.1 j) (t.2.2.1 j) = t.1 (t.2.1 j) (t.2.2.1 j) := fun j hj => ⟨upZ_n (by omega), upZ_n (by omega), up2_n (key j hj)⟩
    refine ⟨⟨fun j hj => ?_, fun i j hij hj => ?_, fun x y => ?_⟩, Nat.le_succ _, sm⟩
    · show 0 ≤ upZ t.2.1 t.2.2.2 X j ∧ upZ t.2.1 t.2.2.2 X j < w ∧ 0 ≤ upZ t.2.2.1 t.2.2.2 Y j ∧ upZ t.2.2.1 t.2.2.2 Y j < h ∧ 0 ≤ up2 t.1 X Y way (upZ t.2.1 t.2.2.2 X j) (upZ t.2.2.1 t.2.2.2 Y j) ∧ up2 t.1 X Y way (upZ t.2.1 t.2.2.2 X j) (upZ t.2.2.1 t.2.2.2 Y j) ≤ j
      by_cases z : j = t.2.2.2
      · subst z
        rw [upZ_s, upZ_s, up2_s]
        exact ⟨b1, b2, b3, b4, hw, hw2⟩
      · have hj2 : j < t.2.2.2 := by
          have : j < t.2.2.2 + 1 := hj
          omega
        obtain ⟨s1, s2, s3⟩ := sm j hj2
        rw [s1, s2, s3]
        exact o.1 j hj2
    · show ¬(upZ t.2.1 t.2.2.2 X i = upZ t.2.1 t.2.2.2 X j ∧ upZ t.2.2.1 t.2.2.2 Y i = upZ t.2.2.1 t.2.2.2 Y j)
      have hj1 : j < t.2.2.2 + 1 := hj
      obtain ⟨s1, s2, -⟩ := sm i (by omega)
      rw [s1, s2]
      by_cases z : j = t.2.2.2
      · subst z
        rw [upZ_s, upZ_s]
        exact key i (by omega)
      · obtain ⟨r1, r2, -⟩ := sm j (by omega)
        rw [r1, r2]
        exact o.2.1 i j hij (by omega)
    · show -1 ≤ up2 t.1 X Y way x y ∧ up2 t.1 X Y way x y ≤ 100
      by_cases z : x = X ∧ y = Y
      · rw [z.1, z.2, up2_s]
        omega
      · rw [up2_n z]
        exact o.2.2 x y
/-- what a class's rows hold of a search -/
def simB (w h : Nat) (F QX QY : Nat → Int) (t : Bs) : Prop := (∀ k, k < w * h → F k = t.1 ((k % w : Nat) : Int) ((k / w : Nat) : Int)) ∧ ∀ j, j < t.2.2.2 → QX j = t.2.1 j ∧ QY j = t.2.2.1 j
theorem cell_mod {w h : Nat} {x y : Int} (hx : 0 ≤ x) (hx2 : x < w) (hy : 0 ≤ y) (hy2 : y < h) : (cellZ w h x y).toNat < w * h ∧ (((cellZ w h x y).toNat % w : Nat) : Int) = x ∧ (((cellZ w h x y).toNat / w : Nat) : Int) = y := by
  have h1 := idx_lt hx hx2 hy hy2
  rw [cellZ_in hx hx2 hy hy2]
  obtain ⟨a, rfl⟩ := Int.eq_ofNat_of_zero_le hx
  obtain ⟨b, rfl⟩ := Int.eq_ofNat_of_zero_le hy
  have e : ((w : Int) * b + a).toNat = w * b + a := by
    have : (w : Int) * b + a = ((w * b + a : Nat) : Int) := by rw [Int.natCast_add, Int.natCast_mul]
    rw [this, Int.toNat_natCast]
  have h2 := mod_xy (w := w) (i := a) (j := b) (by omega)
  refine ⟨by omega, ?_, ?_⟩
  · rw [e, h2.1]
  · rw [e, h2.2]
theorem sim_at {w h : Nat} {F QX QY : Nat → Int} {t : Bs} (s : simB w h F QX QY t) {x y : Int} (hx : 0 ≤ x) (hx2 : x < w) (hy : 0 ≤ y) (hy2 : y < h) : F (cellZ w h x y).toNat = t.1 x y := by
  obtain ⟨h1, h2, h3⟩ := cell_mod hx hx2 hy hy2
  rw [s.1 _ h1, h2, h3]
theorem sim_new {w h : Nat} {F QX QY : Nat → Int} {t : Bs} {g : Int → Int → Int} {way x y : Int} (s : simB w h F QX QY t) (hx : 0 ≤ x) (hx2 : x < w) (hy : 0 ≤ y) (hy2 : y < h) (q1 : g x y ≠ 0) (q2 : t.1 x y = -1) : simB w h (upZ F (cellZ w h x y).toNat way) (upZ QX t.2.2.2 x) (upZ QY t.2.2.2 y) (visG g way x y t) := by
  rw [visG_new q1 q2]
  refine ⟨fun k hk => ?_, fun j hj => ?_⟩
  · show upZ F (cellZ w h x y).toNat way k = up2 t.1 x y way ((k % w : Nat) : Int) ((k / w : Nat) : Int)
    obtain ⟨h1, h2, h3⟩ := cell_mod hx hx2 hy hy2
    by_cases z : k = (cellZ w h x y).toNat
    · rw [z, upZ_s, h2, h3, up2_s]
    · rw [upZ_n z, up2_n, s.1 k hk]
      intro e
      refine z ?_
      have e1 : k % w = (cellZ w h x y).toNat % w := by omega
      have e2 : k / w = (cellZ w h x y).toNat / w := by omega
      rw [← Nat.div_add_mod k w, ← Nat.div_add_mod (cellZ w h x y).toNat w, e1, e2]
  · show upZ QX t.2.2.2 x j = upZ t.2.1 t.2.2.2 x j ∧ upZ QY t.2.2.2 y j = upZ t.2.2.1 t.2.2.2 y j
    have hj1 : j < t.2.2.2 + 1 := hj
    by_cases z : j = t.2.2.2
    · rw [z, upZ_s, upZ_s, upZ_s, upZ_s]
      exact ⟨rfl, rfl⟩
    · rw [upZ_n z, upZ_n z, upZ_n z, upZ_n z]
      exact s.2 j (by omega)
theorem vK_in {w h : Nat} {K : Nat → Int} {x y : Int} (q : vK w h K x y ≠ 0) : 0 ≤ x ∧ x < w ∧ 0 ≤ y ∧ y < h := by
  refine Decidable.byContradiction fun z => q ?_
  rw [vK, cellZ, if_neg z]
  exact kindZ_out (Or.inl (by decide))
theorem outG_vK (w h : Nat) (K : Nat → Int) : outG w h (vK w h K) := fun _ _ q => vK_in q
/-- .. of the start -/
theorem bfs_ok {w h : Nat} {g : Int → Int → Int} {m0 : Int → Int → Int} (hg : outG w h g) (hs : w * h ≤ 100) (X Y : Int) (hm : ∀ x y, -1 ≤ m0 x y ∧ m0 x y ≤ 100) : okB w h (visG g 0 X Y (m0, fun _ => 0, fun _ => 0, 0)) :=
  (vis_all hg hs ⟨fun j hj => absurd hj (Nat.not_lt_zero j), fun i j _ hj => absurd hj (Nat.not_lt_zero j), hm⟩ (Int.le_refl 0) (Int.le_refl 0)).1
theorem dir_all {w h : Nat} {g : Int → Int → Int} {t : Bs} {way X Y : Int} (hg : outG w h g) (hs : w * h ≤ 100) (o : okB w h t) (hw : 0 ≤ way) (hw2 : way ≤ t.2.2.2) : ∀ d, okB w h (dirG g way X Y d t) ∧ t.2.2.2 ≤ (dirG g way X Y d t).2.2.2 ∧ ∀ j, j < t.2.2.2 → (dirG g way X Y d t).2.1 j = t.2.1 j ∧ (dirG g way X Y d t).2.2.1 j = t.2.2.1 j ∧ (dirG g way X Y d t).1 (t.2.1 j) (t.2.2.1 j) = t.1 (t.2.1 j) (t.2.2.1 j)
  | 0 => ⟨o, Nat.le_refl _, fun j _ => ⟨rfl, rfl, rfl⟩⟩
  | d + 1 => by
    obtain ⟨a1, a2, a3⟩ := dir_all (X := X) (Y := Y) hg hs o hw hw2 d
    obtain ⟨b1, b2, b3⟩ := vis_all (X := X + dX d) (Y := Y + dY d) hg hs a1 hw (by omega)
    refine ⟨b1, Nat.le_trans a2 b2, fun j hj => ?_⟩
    obtain ⟨c1, c2, c3⟩ := b3 j (by omega)
    obtain ⟨e1, e2, e3⟩ := a3 j hj
    rw [e1, e2] at c3
    exact ⟨c1.trans e1, c2.trans e2, c3.trans e3⟩
theorem pop_all {w h i : Nat} {g : Int → Int → Int} {t : Bs} (hg : outG w h g) (hs : w * h ≤ 100) (o : okB w h t) (hi : i < t.2.2.2) : okB w h (popG g i t) ∧ t.2.2.2 ≤ (popG g i t).2.2.2 ∧ ∀ j, j < t.2.2.2 → (popG g i t).2.1 j = t.2.1 j ∧ (popG g i t).2.2.1 j = t.2.2.1 j ∧ (popG g i t).1 (t.2.1 j) (t.2.2.1 j) = t.1 (t.2.1 j) (t.2.2.1 j) := by
  have := o.1 i hi
  exact dir_all hg hs o (by omega) (by omega) 8
theorem bfsI_ok {w h : Nat} {g : Int → Int → Int} {m0 : Int → Int → Int} (hg : outG w h g) (hs : w * h ≤ 100) (X Y : Int) (hm : ∀ x y, -1 ≤ m0 x y ∧ m0 x y ≤ 100) : ∀ i, okB w h (bfsI g X Y m0 i)
  | 0 => bfs_ok hg hs X Y hm
  | i + 1 => by
    have o := bfsI_ok hg hs X Y hm i
    rw [bfsI]
    by_cases q : i < (bfsI g X Y m0 i).2.2.2
    · rw [if_pos q]
      exact (pop_all hg hs o q).1
    · rw [if_neg q]
      exact o
theorem bfsG_ok {w h : Nat} {g : Int → Int → Int} {m0 : Int → Int → Int} (hg : outG w h g) (hs : w * h ≤ 100) (X Y : Int) (hm : ∀ x y, -1 ≤ m0 x y ∧ m0 x y ≤ 100) : okB w h (bfsG g X Y m0) := by
  unfold bfsG
  exact bfsI_ok hg hs X Y hm 100
/-- nothing is reached yet -/
def nilM : Int → Int → Int := fun _ _ => -1
theorem nilM_rng (x y : Int) : -1 ≤ nilM x y ∧ nilM x y ≤ 100 := by unfold nilM; omega
def pieceG (g : Int → Int → Int) (x y : Int) : Nat := (bfsG g x y nilM).2.2.2
def wayG (g : Int → Int → Int) (x y tx ty : Int) : Int := (bfsG g x y nilM).1 tx ty
/-- what is reached once the first k cells have been asked -/
def accM (w : Nat) (g : Int → Int → Int) : Nat → Int → Int → Int
  | 0 => nilM
  | k + 1 => (bfsG g ((k % w : Nat) : Int) ((k / w : Nat) : Int) (accM w g k)).1
def newG (w : Nat) (g : Int → Int → Int) (k : Nat) : Nat := (bfsG g ((k % w : Nat) : Int) ((k / w : Nat) : Int) (accM w g k)).2.2.2
def pcsG (w : Nat) (g : Int → Int → Int) : Nat → Nat
  | 0 => 0
  | k + 1 => pcsG w g k + if 0 < newG w g k then 1 else 0
def lonG (w : Nat) (g : Int → Int → Int) : Nat → Nat
  | 0 => 0
  | k + 1 => if lonG w g k < newG w g k then newG w g k else lonG w g k
theorem accM_rng {w h : Nat} {g : Int → Int → Int} (hg : outG w h g) (hs : w * h ≤ 100) : ∀ k x y, -1 ≤ accM w g k x y ∧ accM w g k x y ≤ 100
  | 0 => nilM_rng
  | k + 1 => (bfsG_ok hg hs _ _ (accM_rng hg hs k)).2.2
theorem newG_le {w h : Nat} {g : Int → Int → Int} (hg : outG w h g) (hs : w * h ≤ 100) (k : Nat) : newG w g k ≤ w * h := okB_len (bfsG_ok hg hs _ _ (accM_rng hg hs k))
theorem pcsG_le (w : Nat) (g : Int → Int → Int) : ∀ k, pcsG w g k ≤ k
  | 0 => Nat.le_refl 0
  | k + 1 => by
    have := pcsG_le w g k
    rw [pcsG]
    split <;> omega
theorem lonG_le {w h : Nat} {g : Int → Int → Int} (hg : outG w h g) (hs : w * h ≤ 100) : ∀ k, lonG w g k ≤ 100
  | 0 => Nat.zero_le _
  | k + 1 => by
    have := lonG_le hg hs k
    have := newG_le hg hs k
    rw [lonG]
    split <;> omega
