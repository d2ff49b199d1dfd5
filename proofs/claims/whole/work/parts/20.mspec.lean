/-- the reference's place of a column and a row -/
def atZ (x y : Int) : Int := 12 * (y + 1) + x + 1
theorem atZ_rng {x y : Int} (hx : -1 ≤ x ∧ x ≤ 10) (hy : -1 ≤ y ∧ y ≤ 10) : 0 ≤ atZ x y ∧ atZ x y < 144 := by unfold atZ; omega
theorem atZ_inj {x y a b : Int} (hx : -1 ≤ x ∧ x ≤ 10) (ha : -1 ≤ a ∧ a ≤ 10) (e : atZ x y = atZ a b) : x = a ∧ y = b := by unfold atZ at e; omega
theorem atZ_d (x y : Int) (d : Nat) : atZ x y + stepF d = atZ (x + dX d) (y + dY d) := by unfold atZ stepF; omega
theorem atZ_s (x y : Int) (d : Nat) : atZ x y - stepF d = atZ (x - dX d) (y - dY d) := by unfold atZ stepF; omega
theorem stepF_rng (d : Nat) : -13 ≤ stepF d ∧ stepF d ≤ 13 := by
  have := dX_rng d
  have := dY_rng d
  unfold stepF
  omega
/-- the reference's row holds a grid -/
def isM (g : Int → Int → Int) (N : Nat → Int) : Prop := ∀ x y, -1 ≤ x ∧ x ≤ 10 → -1 ≤ y ∧ y ≤ 10 → N (atZ x y).toNat = g x y
theorem isM_put {g : Int → Int → Int} {N : Nat → Int} {x y v : Int} (h : isM g N) (hx : -1 ≤ x ∧ x ≤ 10) (hy : -1 ≤ y ∧ y ≤ 10) : isM (up2 g x y v) (upZ N (atZ x y).toNat v) := by
  intro a b ha hb
  have r1 := atZ_rng hx hy
  have r2 := atZ_rng ha hb
  by_cases q : a = x ∧ b = y
  · rw [q.1, q.2, upZ_s, up2_s]
  · rw [up2_n q, upZ_n]
    · exact h a b ha hb
    · intro e
      exact q (atZ_inj ha hx (by omega))
theorem isM_cong {g : Int → Int → Int} {N M : Nat → Int} (h : isM g N) (e : ∀ c, c < 144 → M c = N c) : isM g M := by
  intro a b ha hb
  have r2 := atZ_rng ha hb
  rw [e _ (by omega)]
  exact h a b ha hb
/-- .. just one grid (of those that are empty outside the board) -/
theorem isM_one {w h : Nat} {g g2 : Int → Int → Int} {N M : Nat → Int} (hw : w ≤ 10) (hh : h ≤ 10) (h1 : isM g N) (h2 : isM g2 M) (o1 : outG w h g) (o2 : outG w h g2) : (∀ c, c < 144 → N c = M c) ↔ g = g2 := by
  constructor
  · intro e
    funext x y
    by_cases q : inB w h x y
    · have r := atZ_rng (x := x) (y := y) (by omega) (by omega)
      rw [← h1 x y (by omega) (by omega), ← h2 x y (by omega) (by omega)]
      exact e _ (by omega)
    · have a : g x y = 0 := Decidable.byContradiction fun z => q (o1 x y z)
      have b : g2 x y = 0 := Decidable.byContradiction fun z => q (o2 x y z)
      rw [a, b]
  · intro e c hc
    subst e
    have k1 : atZ (((c % 12 : Nat) : Int) - 1) (((c / 12 : Nat) : Int) - 1) = (c : Int) := by unfold atZ; omega
    have a := h1 (((c % 12 : Nat) : Int) - 1) (((c / 12 : Nat) : Int) - 1) (by omega) (by omega)
    have b := h2 (((c % 12 : Nat) : Int) - 1) (((c / 12 : Nat) : Int) - 1) (by omega) (by omega)
    rw [k1, Int.toNat_natCast] at a b
    rw [a, b]
theorem outG_step {w h : Nat} {g : Int → Int → Int} (o : outG w h g) : outG w h (stepG g) := by
  intro x y q
  refine o x y (fun z => q ?_)
  unfold stepG
  rw [z]
  rfl
theorem outG_it {w h : Nat} {g : Int → Int → Int} (o : outG w h g) : ∀ i, outG w h (itG g i)
  | 0 => o
  | i + 1 => outG_step (outG_it o i)
theorem okG_step {g : Int → Int → Int} : okG (stepG g) := fun x y => nextZ_rng _ _
theorem okG_it {g : Int → Int → Int} (o : okG g) : ∀ i, okG (itG g i)
  | 0 => o
  | i + 1 => okG_step
theorem outG_put {w h : Nat} {g : Int → Int → Int} {x y v : Int} (o : outG w h g) (hi : inB w h x y) : outG w h (up2 g x y v) := by
  intro a b q
  by_cases z : a = x ∧ b = y
  · rw [z.1, z.2]; exact hi
  · rw [up2_n z] at q; exact o a b q
theorem okG_put {g : Int → Int → Int} {x y v : Int} (o : okG g) (hv : 0 ≤ v ∧ v ≤ 3) : okG (up2 g x y v) := by
  intro a b
  by_cases z : a = x ∧ b = y
  · rw [z.1, z.2, up2_s]; exact hv
  · rw [up2_n z]; exact o a b
/-- the first k cells have gone on a step -/
def midG (w h : Nat) (g : Int → Int → Int) (k : Nat) : Int → Int → Int := fun x y => if inB w h x y ∧ (w : Int) * y + x < k then stepG g x y else g x y
theorem midG_0 (w h : Nat) (g : Int → Int → Int) : midG w h g 0 = g := by
  funext x y
  refine if_neg (fun q => ?_)
  have := idx_lt q.1.1 q.1.2.1 q.1.2.2.1 q.1.2.2.2
  omega
theorem midG_s {w h k : Nat} {g : Int → Int → Int} (hk : k < w * h) : up2 (midG w h g k) ((k % w : Nat) : Int) ((k / w : Nat) : Int) (stepG g ((k % w : Nat) : Int) ((k / w : Nat) : Int)) = midG w h g (k + 1) := by
  obtain ⟨hi, hc⟩ := cell_of hk
  have hcz := cellZ_inB hi
  have ek : (w : Int) * ((k / w : Nat) : Int) + ((k % w : Nat) : Int) = (k : Int) := by
    have := Nat.div_add_mod k w
    rw [← Int.natCast_mul, ← Int.natCast_add, this]
  funext x y
  by_cases q : x = ((k % w : Nat) : Int) ∧ y = ((k / w : Nat) : Int)
  · rw [q.1, q.2, up2_s]
    exact (if_pos ⟨hi, by rw [ek]; omega⟩).symm
  · rw [up2_n q]
    by_cases z : inB w h x y ∧ (w : Int) * y + x < k
    · exact (if_pos z).trans (if_pos ⟨z.1, by omega⟩).symm
    · refine (if_neg z).trans (if_neg (fun u => z ⟨u.1, ?_⟩)).symm
      have : (w : Int) * y + x ≠ k := fun e => q (idx_inj u.1.1 u.1.2.1 hi.1 hi.2.1 u.1.2.2.1 hi.2.2.1 (by rw [e, ek]))
      have := u.2
      omega
theorem midG_all {w h : Nat} {g : Int → Int → Int} (o : outG w h g) : midG w h g (w * h) = stepG g := by
  funext x y
  unfold midG
  by_cases q : inB w h x y
  · have := idx_lt q.1 q.2.1 q.2.2.1 q.2.2.2
    rw [if_pos ⟨q, by omega⟩]
  · rw [if_neg (fun z => q z.1)]
    have e : g x y = 0 := Decidable.byContradiction fun z => q (o x y z)
    unfold stepG
    rw [e]
    rfl
/-- the reference's row of lamps -/
def isL (n : Nat) (LX LY LL LA LR : Nat → Int) : Prop := ∀ i, i < n → LR (4 * i) = atZ (LX i) (LY i) ∧ LR (4 * i + 1) = LL i ∧ LR (4 * i + 2) = LA i
theorem isL_light {n i : Nat} {LX LY LL LA LR v : Nat → Int} {s : Int} (h : isL n LX LY (litI v LL i) (latI v LA s i) LR) (hi : i < n) (hv : v i = 2) : isL n LX LY (litI v LL (i + 1)) (latI v LA s (i + 1)) (upZ (upZ LR (4 * i + 1) (LR (4 * i + 1) + 1)) (4 * i + 2) s) := by
  intro j hj
  obtain ⟨a, b, c⟩ := h j hj
  rw [← litI_t hv, ← latI_t (s := s) hv]
  by_cases q : j = i
  · subst q
    rw [upZ_n (by omega), upZ_n (by omega), upZ_n (by omega), upZ_s, upZ_s, upZ_s, upZ_s, b]
    exact ⟨a, rfl, rfl⟩
  · exact ⟨((upZ_n (by omega)).trans (upZ_n (by omega))).trans a, ((upZ_n (by omega)).trans (upZ_n (by omega))).trans (b.trans (upZ_n q).symm), ((upZ_n (by omega)).trans (upZ_n (by omega))).trans (c.trans (upZ_n q).symm)⟩
theorem isL_cong {n : Nat} {LX LY LL LA LR LS : Nat → Int} (hn : n ≤ 5) (h : isL n LX LY LL LA LR) (e : ∀ k, k < 20 → LS k = LR k) : isL n LX LY LL LA LS := by
  intro i hi
  rw [e _ (by omega), e _ (by omega), e _ (by omega)]
  exact h i hi
theorem oth_s {w h i : Nat} {OT : Nat → Int} {G : Int → Int → Int} (hw : w ≤ 10) (hh : h ≤ 10) (hi : i < w * h) (H : ∀ k, k < i → OT (atZ ((k % w : Nat) : Int) ((k / w : Nat) : Int)).toNat = G ((k % w : Nat) : Int) ((k / w : Nat) : Int)) : ∀ k, k < i + 1 → upZ OT (atZ ((i % w : Nat) : Int) ((i / w : Nat) : Int)).toNat (G ((i % w : Nat) : Int) ((i / w : Nat) : Int)) (atZ ((k % w : Nat) : Int) ((k / w : Nat) : Int)).toNat = G ((k % w : Nat) : Int) ((k / w : Nat) : Int) := by
  intro k hk
  by_cases q : k = i
  · rw [q, upZ_s]
  · obtain ⟨h1, e1⟩ := cell_of hi
    obtain ⟨h2, e2⟩ := cell_of (show k < w * h by omega)
    have r1 := atZ_rng (x := ((i % w : Nat) : Int)) (y := ((i / w : Nat) : Int)) (by omega) (by omega)
    have r2 := atZ_rng (x := ((k % w : Nat) : Int)) (y := ((k / w : Nat) : Int)) (by omega) (by omega)
    rw [upZ_n, H k (by omega)]
    intro e
    obtain ⟨a, b⟩ := atZ_inj (x := ((k % w : Nat) : Int)) (y := ((k / w : Nat) : Int)) (a := ((i % w : Nat) : Int)) (b := ((i / w : Nat) : Int)) (by omega) (by omega) (by omega)
    refine q ?_
    rw [← e1, ← e2, a, b]
theorem okG_lay {g : Int → Int → Int} {x y : Int} (o : okG g) : okG (layG g x y) := by
  unfold layG
  split
  · exact okG_put o (by omega)
  · exact o
theorem outG_lay {w h : Nat} {g : Int → Int → Int} {x y : Int} (o : outG w h g) (hi : inB w h x y) : outG w h (layG g x y) := by
  unfold layG
  split
  · exact outG_put o hi
  · exact o
theorem okG_lin {g : Int → Int → Int} {x y sx sy : Int} (o : okG g) : ∀ i, okG (linG g x y sx sy i).1
  | 0 => o
  | i + 1 => okG_lay (okG_lin o i)
theorem outG_lin {w h m : Nat} {g : Int → Int → Int} {x y sx sy : Int} (o : outG w h g) (hb : ∀ i : Nat, i ≤ m → inB w h (x + (i : Int) * sx) (y + (i : Int) * sy)) : ∀ i, i ≤ m + 1 → outG w h (linG g x y sx sy i).1
  | 0, _ => o
  | i + 1, hi => outG_lay (outG_lin o hb i (by omega)) (hb i (by omega))
theorem cmpZ_sub (a b : Int) : cmpZ (a - b) 0 = cmpZ a b := by
  unfold cmpZ
  by_cases h1 : a < b
  · rw [if_pos h1, if_pos (by omega)]
  · rw [if_neg h1, if_neg (by omega)]
    by_cases h2 : a = b
    · rw [if_pos h2, if_pos (by omega)]
    · rw [if_neg h2, if_neg (by omega)]
theorem lin_end {i : Nat} {x y tx ty : Int} (hx : 0 ≤ x ∧ x ≤ 9) (hy : 0 ≤ y ∧ y ≤ 9) (htx : 0 ≤ tx ∧ tx ≤ 9) (hty : 0 ≤ ty ∧ ty ≤ 9) (ha : x = tx ∨ y = ty ∨ tx - x = ty - y ∨ tx - x = y - ty) (hi : i ≤ lenZ x y tx ty) : atZ (x + (i : Int) * cmpZ tx x) (y + (i : Int) * cmpZ ty y) = atZ tx ty ↔ i = lenZ x y tx ty := by
  unfold lenZ at hi ⊢
  unfold atZ cmpZ
  split <;> split <;> (try split) <;> (try split) <;> omega
theorem lin_next (i : Nat) (x y sx sy : Int) : atZ (x + (i : Int) * sx) (y + (i : Int) * sy) + (sx + 12 * sy) = atZ (x + ((i + 1 : Nat) : Int) * sx) (y + ((i + 1 : Nat) : Int) * sy) := by
  have e1 : ((i + 1 : Nat) : Int) * sx = (i : Int) * sx + sx := by rw [Int.natCast_add, Int.add_mul]; simp
  have e2 : ((i + 1 : Nat) : Int) * sy = (i : Int) * sy + sy := by rw [Int.natCast_add, Int.add_mul]; simp
  rw [e1, e2]
  unfold atZ
  omega
theorem okG_2 {p : (Int → Int → Int) × Nat} {x y x2 y2 : Int} (o : okG p.1) : okG (lay2 p x y x2 y2).1 := okG_lay (okG_lay o)
theorem outG_2 {w h : Nat} {p : (Int → Int → Int) × Nat} {x y x2 y2 : Int} (o : outG w h p.1) (h1 : inB w h x y) (h2 : inB w h x2 y2) : outG w h (lay2 p x y x2 y2).1 := outG_lay (outG_lay o h1) h2
theorem isL_add {n : Nat} {LX LY LL LA LR : Nat → Int} {x y : Int} (h : isL n LX LY LL LA LR) : isL (n + 1) (upZ LX n x) (upZ LY n y) (upZ LL n 0) (upZ LA n 0) (upZ (upZ (upZ LR (4 * n) (atZ x y)) (4 * n + 1) 0) (4 * n + 2) 0) := by
  intro j hj
  by_cases q : j = n
  · subst q
    refine ⟨?_, ?_, ?_⟩
    · rw [upZ_n (by omega), upZ_n (by omega), upZ_s, upZ_s, upZ_s]
    · rw [upZ_n (by omega), upZ_s, upZ_s]
    · rw [upZ_s, upZ_s]
  · obtain ⟨a, b, c⟩ := h j (by omega)
    have e1 : ∀ F : Nat → Int, ∀ v, upZ F n v j = F j := fun F v => upZ_n q
    rw [e1, e1, e1, e1]
    exact ⟨((upZ_n (by omega)).trans ((upZ_n (by omega)).trans (upZ_n (by omega)))).trans a, ((upZ_n (by omega)).trans ((upZ_n (by omega)).trans (upZ_n (by omega)))).trans b, ((upZ_n (by omega)).trans ((upZ_n (by omega)).trans (upZ_n (by omega)))).trans c⟩
/-- what signum's bits are -/
theorem sgn_bits : ∀ k : Nat, k < 201 → ((iI ((k : Int) - 100) >>> (iI 31 &&& 31)) ||| ((iI (-((k : Int) - 100))).toUInt32 >>> ((iI 31).toUInt32 &&& Int32.toUInt32 31)).toInt32) = iI (cmpZ ((k : Int) - 100) 0) := by decide +kernel
theorem sgn_eq {a : Int} (h : -100 ≤ a ∧ a ≤ 100) : ((iI a >>> (iI 31 &&& 31)) ||| ((iI (-a)).toUInt32 >>> ((iI 31).toUInt32 &&& Int32.toUInt32 31)).toInt32) = iI (cmpZ a 0) := by
  have := sgn_bits (a + 100).toNat (by omega)
  rw [show (((a + 100).toNat : Nat) : Int) - 100 = a by omega] at this
  exact this
/-- what the reference's rows hold of a search -/
def simM (T : Bs) (MK LN : Nat → Int) : Prop := isM T.1 MK ∧ ∀ j, j < T.2.2.2 → LN j = atZ (T.2.1 j) (T.2.2.1 j)
theorem simM_new {T : Bs} {MK LN : Nat → Int} {g : Int → Int → Int} {way X Y : Int} (s : simM T MK LN) (hX : -1 ≤ X ∧ X ≤ 10) (hY : -1 ≤ Y ∧ Y ≤ 10) (h1 : g X Y ≠ 0) (h2 : T.1 X Y = -1) : simM (visG g way X Y T) (upZ MK (atZ X Y).toNat way) (upZ LN T.2.2.2 (atZ X Y)) := by
  rw [visG_new h1 h2]
  refine ⟨isM_put s.1 hX hY, fun j hj => ?_⟩
  show upZ LN T.2.2.2 (atZ X Y) j = atZ (upZ T.2.1 T.2.2.2 X j) (upZ T.2.2.1 T.2.2.2 Y j)
  have hj1 : j < T.2.2.2 + 1 := hj
  by_cases z : j = T.2.2.2
  · rw [z, upZ_s, upZ_s, upZ_s]
  · rw [upZ_n z, upZ_n z, upZ_n z]
    exact s.2 j (by omega)
theorem simM_0 {g : Int → Int → Int} {x y : Int} {MK LN : Nat → Int} (hx : -1 ≤ x ∧ x ≤ 10) (hy : -1 ≤ y ∧ y ≤ 10) (h : g x y ≠ 0) : simM (bfsI g x y nilM 0) (upZ (fillZ MK (-1) 144) (atZ x y).toNat 0) (upZ LN 0 (atZ x y)) := by
  show simM (visG g 0 x y (nilM, fun _ => 0, fun _ => 0, 0)) _ _
  refine simM_new (T := (nilM, fun _ => 0, fun _ => 0, 0)) ⟨fun a b ha hb => ?_, fun j hj => absurd hj (Nat.not_lt_zero j)⟩ hx hy h rfl
  have := atZ_rng ha hb
  rw [fillZ_in (by omega)]
  rfl
theorem bfs_n0 {g : Int → Int → Int} {x y : Int} (h : g x y ≠ 0) : (bfsI g x y nilM 0).2.2.2 = 1 := by
  show (visG g 0 x y (nilM, fun _ => 0, fun _ => 0, 0)).2.2.2 = 1
  rw [visG_new h rfl]
theorem bfs_e0 {g : Int → Int → Int} {x y : Int} (h : g x y = 0) : bfsG g x y nilM = (nilM, fun _ => 0, fun _ => 0, 0) := by
  have e : bfsI g x y nilM 0 = (nilM, fun _ => 0, fun _ => 0, 0) := visG_skip (Or.inl h)
  rw [bfs_done (i := 0) (by rw [e]; exact Nat.le_refl 0) (by decide), e]
theorem pieceG_0 {g : Int → Int → Int} {x y : Int} (h : g x y = 0) : pieceG g x y = 0 := by
  unfold pieceG
  rw [bfs_e0 h]
theorem wayG_0 {g : Int → Int → Int} {x y tx ty : Int} (h : g x y = 0) : wayG g x y tx ty = -1 := by
  unfold wayG
  rw [bfs_e0 h]
  rfl
theorem vis_emp {g : Int → Int → Int} {way X Y : Int} {t : Bs} (h : ∀ a b, t.1 a b ≠ -1 → g a b ≠ 0) : ∀ a b, (visG g way X Y t).1 a b ≠ -1 → g a b ≠ 0 := by
  intro a b q
  by_cases z : g X Y = 0 ∨ t.1 X Y ≠ -1
  · rw [visG_skip z] at q
    exact h a b q
  · have q1 : g X Y ≠ 0 := fun u => z (Or.inl u)
    have q2 : t.1 X Y = -1 := Decidable.byContradiction fun u => z (Or.inr u)
    rw [visG_new q1 q2] at q
    by_cases e : a = X ∧ b = Y
    · rw [e.1, e.2]; exact q1
    · exact h a b (by rw [← up2_n (m := t.1) (v := way) e]; exact q)
theorem dir_emp {g : Int → Int → Int} {way X Y : Int} {t : Bs} (h : ∀ a b, t.1 a b ≠ -1 → g a b ≠ 0) : ∀ d, ∀ a b, (dirG g way X Y d t).1 a b ≠ -1 → g a b ≠ 0
  | 0 => h
  | d + 1 => vis_emp (dir_emp h d)
theorem bfs_emp {g : Int → Int → Int} {x y : Int} : ∀ i, ∀ a b, (bfsI g x y nilM i).1 a b ≠ -1 → g a b ≠ 0
  | 0 => vis_emp (fun a b q => absurd rfl q)
  | i + 1 => by
    rw [bfsI]
    split
    · exact dir_emp (bfs_emp i) 8
    · exact bfs_emp i
theorem wayG_t {g : Int → Int → Int} {x y tx ty : Int} (h : g tx ty = 0) : wayG g x y tx ty = -1 := by
  unfold wayG bfsG
  exact Decidable.byContradiction fun q => bfs_emp 100 tx ty q h
/-- the reference's counting of pieces: a cell counts where none before it is reached from it -/
def isFst (w : Nat) (g : Int → Int → Int) (k : Nat) : Nat → Prop
  | 0 => True
  | i + 1 => isFst w g k i ∧ (bfsG g ((k % w : Nat) : Int) ((k / w : Nat) : Int) nilM).1 ((i % w : Nat) : Int) ((i / w : Nat) : Int) = -1
noncomputable def pcsM (w : Nat) (g : Int → Int → Int) : Nat → Nat
  | 0 => 0
  | k + 1 => pcsM w g k + @ite Nat (g ((k % w : Nat) : Int) ((k / w : Nat) : Int) ≠ 0 ∧ isFst w g k k) (Classical.propDecidable _) 1 0
def lonM (w : Nat) (g : Int → Int → Int) : Nat → Nat
  | 0 => 0
  | k + 1 => if lonM w g k < pieceG g ((k % w : Nat) : Int) ((k / w : Nat) : Int) then pieceG g ((k % w : Nat) : Int) ((k / w : Nat) : Int) else lonM w g k
theorem lonM_le {w h : Nat} {g : Int → Int → Int} (hg : outG w h g) (hs : w * h ≤ 100) : ∀ k, lonM w g k ≤ 100
  | 0 => Nat.zero_le _
  | k + 1 => by
    have := lonM_le hg hs k
    have := okB_len (bfsG_ok hg hs ((k % w : Nat) : Int) ((k / w : Nat) : Int) nilM_rng)
    rw [lonM, pieceG]
    split <;> omega
theorem pcsM_t {w k : Nat} {g : Int → Int → Int} (h : g ((k % w : Nat) : Int) ((k / w : Nat) : Int) ≠ 0 ∧ isFst w g k k) : pcsM w g (k + 1) = pcsM w g k + 1 := by
  show pcsM w g k + @ite Nat _ (Classical.propDecidable _) 1 0 = _
  rw [if_pos h]
theorem pcsM_f {w k : Nat} {g : Int → Int → Int} (h : ¬(g ((k % w : Nat) : Int) ((k / w : Nat) : Int) ≠ 0 ∧ isFst w g k k)) : pcsM w g (k + 1) = pcsM w g k := by
  show pcsM w g k + @ite Nat _ (Classical.propDecidable _) 1 0 = _
  rw [if_neg h, Nat.add_zero]
theorem countG_0 (w h n sg : Nat) (g : Int → Int → Int) (LL : Nat → Int) : countG w h n sg g LL 0 = (sg : Int) := by
  unfold countG
  rw [if_pos rfl]
theorem countG_1 (w h n sg : Nat) (g : Int → Int → Int) (LL : Nat → Int) : countG w h n sg g LL 1 = (w : Int) := by
  unfold countG
  rw [if_neg (by decide), if_pos rfl]
theorem countG_2 (w h n sg : Nat) (g : Int → Int → Int) (LL : Nat → Int) : countG w h n sg g LL 2 = (h : Int) := by
  unfold countG
  rw [if_neg (by decide), if_neg (by decide), if_pos rfl]
theorem countG_3 (w h n sg : Nat) (g : Int → Int → Int) (LL : Nat → Int) : countG w h n sg g LL 3 = (cntG w h g 1 : Nat) := by
  unfold countG
  rw [if_neg (by decide), if_neg (by decide), if_neg (by decide), if_pos rfl]
theorem countG_4 (w h n sg : Nat) (g : Int → Int → Int) (LL : Nat → Int) : countG w h n sg g LL 4 = (cntG w h g 2 : Nat) := by
  unfold countG
  rw [if_neg (by decide), if_neg (by decide), if_neg (by decide), if_neg (by decide), if_pos rfl]
theorem countG_5 (w h n sg : Nat) (g : Int → Int → Int) (LL : Nat → Int) : countG w h n sg g LL 5 = (cntG w h g 3 : Nat) := by
  unfold countG
  rw [if_neg (by decide), if_neg (by decide), if_neg (by decide), if_neg (by decide), if_neg (by decide), if_pos rfl]
theorem countG_6 (w h n sg : Nat) (g : Int → Int → Int) (LL : Nat → Int) : countG w h n sg g LL 6 = (pcsG w g (w * h) : Nat) := by
  unfold countG
  rw [if_neg (by decide), if_neg (by decide), if_neg (by decide), if_neg (by decide), if_neg (by decide), if_neg (by decide), if_pos rfl]
theorem countG_7 (w h n sg : Nat) (g : Int → Int → Int) (LL : Nat → Int) : countG w h n sg g LL 7 = (lonG w g (w * h) : Nat) := by
  unfold countG
  rw [if_neg (by decide), if_neg (by decide), if_neg (by decide), if_neg (by decide), if_neg (by decide), if_neg (by decide), if_neg (by decide), if_pos rfl]
theorem countG_8 (w h n sg : Nat) (g : Int → Int → Int) (LL : Nat → Int) : countG w h n sg g LL 8 = (n : Int) := by
  unfold countG
  rw [if_neg (by decide), if_neg (by decide), if_neg (by decide), if_neg (by decide), if_neg (by decide), if_neg (by decide), if_neg (by decide), if_neg (by decide), if_pos rfl]
theorem countG_9 (w h n sg : Nat) (g : Int → Int → Int) (LL : Nat → Int) : countG w h n sg g LL 9 = sumZ LL n := by
  unfold countG
  rw [if_neg (by decide), if_neg (by decide), if_neg (by decide), if_neg (by decide), if_neg (by decide), if_neg (by decide), if_neg (by decide), if_neg (by decide), if_neg (by decide)]
theorem sum_lit' {v L : Nat → Int} : ∀ m n : Nat, n ≤ m → sumZ (litI v L m) n = sumZ L n + (cntI v 2 n : Nat)
  | m, 0, _ => rfl
  | m, n + 1, h => by
    rw [sumZ_s, sumZ_s, cntI_s, sum_lit' m n (by omega)]
    have e : litI v L m n = L n + if v n = 2 then 1 else 0 := by
      unfold litI
      by_cases q : v n = 2
      · rw [if_pos ⟨by omega, q⟩, if_pos q]
      · rw [if_neg (fun z => q z.2), if_neg q, Int.add_zero]
    rw [e]
    split <;> omega
theorem sum_lit {v L : Nat → Int} {n : Nat} : sumZ (litI v L n) n = sumZ L n + (cntI v 2 n : Nat) := sum_lit' n n (Nat.le_refl n)
theorem fore_eq {w h n ms i : Nat} {g : Int → Int → Int} {LX LY LL L1 : Nat → Int} {k : Int} (hk : (3 ≤ k ∧ k ≤ 5) ∨ k = 9) (hs : sumZ L1 n = sumZ LL n + (aliG g n LX LY i : Nat)) : countG w h n ms (itG g i) L1 k = foreG w h n g LX LY LL i k := by
  unfold foreG
  rcases (show k = 3 ∨ k = 4 ∨ k = 5 ∨ k = 9 by omega) with e | e | e | e <;> subst e
  · rw [countG_3, if_neg (by decide)]; rfl
  · rw [countG_4, if_neg (by decide)]; rfl
  · rw [countG_5, if_neg (by decide)]; rfl
  · rw [countG_9, if_pos rfl, hs]
theorem cpyO_in {F G : Nat → Int} {n k : Nat} (h : k < n) : cpyO F G 0 0 n k = F k := by rw [cpyO_0, cpyZ_in h]
noncomputable def eqG (a b : Int → Int → Int) : Int := @ite Int (a = b) (Classical.propDecidable _) 1 0
theorem eqG_t {a b : Int → Int → Int} (h : a = b) : eqG a b = 1 := if_pos h
theorem eqG_f {a b : Int → Int → Int} (h : ¬ a = b) : eqG a b = 0 := if_neg h
theorem eqG_rng (a b : Int → Int → Int) : eqG a b = 0 ∨ eqG a b = 1 := (Classical.em (a = b)).elim (fun h => Or.inr (eqG_t h)) (fun h => Or.inl (eqG_f h))
theorem isM_rng {g : Int → Int → Int} {N : Nat → Int} (h : isM g N) (o : okG g) : ∀ c, c < 144 → 0 ≤ N c ∧ N c ≤ 3 := by
  intro c hc
  have k1 : atZ (((c % 12 : Nat) : Int) - 1) (((c / 12 : Nat) : Int) - 1) = (c : Int) := by unfold atZ; omega
  have a := h (((c % 12 : Nat) : Int) - 1) (((c / 12 : Nat) : Int) - 1) (by omega) (by omega)
  rw [k1, Int.toNat_natCast] at a
  rw [a]
  exact o _ _
def perV (g : Int → Int → Int) (q td : Int) : Prop := ∃ e t : Nat, isPer g e t ∧ td = if q = 0 then (e : Int) else (t : Int) - (e : Int)
theorem perV_rng {g : Int → Int → Int} {q td : Int} (h : perV g q td) : 0 ≤ td ∧ td ≤ 90 := by
  obtain ⟨e, t, ⟨h1, h2, -⟩, rfl⟩ := h
  split <;> omega
theorem perV_eq {g : Int → Int → Int} {q td : Int} (h : perV g q td) : perG g q = td := by
  obtain ⟨e, t, h1, rfl⟩ := h
  exact perG_of h1
theorem kept_next {g : Int → Int → Int} {t : Nat} {N WE : Nat → Int} (hN : isM (itG g t) N) (hW : ∀ u, u < t → isM (itG g u) (fun k => WE (144 * u + k))) : ∀ u, u < t + 1 → isM (itG g u) (fun k => cpyO N WE 0 (144 * t) 144 (144 * u + k)) := by
  intro u hu
  by_cases q : u = t
  · subst q
    refine isM_cong hN (fun c hc => ?_)
    show (if 144 * u ≤ 144 * u + c ∧ 144 * u + c < 144 * u + 144 then N (0 + (144 * u + c - 144 * u)) else WE (144 * u + c)) = N c
    rw [if_pos ⟨by omega, by omega⟩, show 0 + (144 * u + c - 144 * u) = c by omega]
  · refine isM_cong (hW u (by omega)) (fun c hc => ?_)
    show (if 144 * t ≤ 144 * u + c ∧ 144 * u + c < 144 * t + 144 then N (0 + (144 * u + c - 144 * t)) else WE (144 * u + c)) = WE (144 * u + c)
    rw [if_neg (by omega)]
theorem wi_eq (g : Int → Int → Int) (x y : Int) : (8 : Int) - (arG g x y 0 : Nat) = (wiG g x y : Nat) := by
  have := cntN_eq (fun d => g (x + dX d) (y + dY d)) 0 8
  unfold arG wiG
  omega
