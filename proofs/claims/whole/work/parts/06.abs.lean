abbrev inB (w h : Nat) (x y : Int) : Prop := 0 ≤ x ∧ x < w ∧ 0 ≤ y ∧ y < h
theorem cellZ_inB {w h : Nat} {x y : Int} (hi : inB w h x y) : cellZ w h x y = w * y + x ∧ 0 ≤ cellZ w h x y := by
  rw [cellZ_in hi.1 hi.2.1 hi.2.2.1 hi.2.2.2]
  exact ⟨rfl, (idx_lt hi.1 hi.2.1 hi.2.2.1 hi.2.2.2).1⟩
theorem inB_cell {w h : Nat} {x y : Int} (h0 : cellZ w h x y ≠ -1) : inB w h x y := Decidable.byContradiction fun q => h0 (if_neg q)
theorem cell_inB {w h : Nat} {x y : Int} (h0 : cellZ w h x y = -1) : ¬ inB w h x y := fun q => by
  have := (cellZ_inB q).2
  omega
/-- the cells beyond the board's are empty -/
def tlK (w h : Nat) (K : Nat → Int) : Prop := ∀ k, w * h ≤ k → k < 100 → K k = 0
theorem tlK_put {w h : Nat} {K : Nat → Int} {x y v : Int} (hi : inB w h x y) (ht : tlK w h K) : tlK w h (upZ K (cellZ w h x y).toNat v) := by
  intro k h1 h2
  have := (cell_mod hi.1 hi.2.1 hi.2.2.1 hi.2.2.2).1
  rw [upZ_n (by omega)]
  exact ht k h1 h2
theorem okK_put {K : Nat → Int} {j : Nat} {v : Int} (hv : 0 ≤ v ∧ v ≤ 3) (hK : okK K) : okK (upZ K j v) := by
  intro k hk
  by_cases q : k = j
  · rw [q, upZ_s]; exact hv
  · rw [upZ_n q]; exact hK k hk
theorem okK_cpy {K K2 : Nat → Int} (hK : okK K) : okK (cpyZ K K2 100) := by
  intro k hk
  rw [cpyZ_in hk]
  exact hK k hk
theorem vK_cpy {w h : Nat} {K K2 : Nat → Int} : vK w h (cpyZ K K2 100) = vK w h K := by
  funext x y
  show kindZ (cpyZ K K2 100) (cellZ w h x y) = kindZ K (cellZ w h x y)
  by_cases q : 0 ≤ cellZ w h x y ∧ cellZ w h x y < 100
  · rw [kindZ_in q.1 q.2, kindZ_in q.1 q.2, cpyZ_in (by omega)]
  · rw [kindZ, if_neg q, kindZ, if_neg q]
theorem tlK_cpy {w h : Nat} {K K2 : Nat → Int} (ht : tlK w h K) : tlK w h (cpyZ K K2 100) := by
  intro k h1 h2
  rw [cpyZ_in h2]
  exact ht k h1 h2
theorem vK_put {w h : Nat} {K : Nat → Int} {x y v : Int} (hs : w * h ≤ 100) (hi : inB w h x y) : vK w h (upZ K (cellZ w h x y).toNat v) = up2 (vK w h K) x y v := by
  funext a b
  have hc := cellZ_inB hi
  have hr := cellZ_rng w h x y
  by_cases q : a = x ∧ b = y
  · rw [q.1, q.2, up2_s, vK, kindZ_in hc.2 (by omega), upZ_s]
  · rw [up2_n q, vK, vK]
    by_cases z : inB w h a b
    · have hd := cellZ_inB z
      have hr2 := cellZ_rng w h a b
      rw [kindZ_in hd.2 (by omega), kindZ_in hd.2 (by omega), upZ_n]
      intro e
      have e2 : (w : Int) * b + a = w * y + x := by rw [← hd.1, ← hc.1]; omega
      exact q (idx_inj z.1 z.2.1 hi.1 hi.2.1 z.2.2.1 hi.2.2.1 e2)
    · have : cellZ w h a b = -1 := if_neg z
      rw [this, kindZ_out (Or.inl (by decide)), kindZ_out (Or.inl (by decide))]
theorem vK_at {w h : Nat} {K : Nat → Int} (hs : w * h ≤ 100) {k : Nat} (hk : k < w * h) : vK w h K ((k % w : Nat) : Int) ((k / w : Nat) : Int) = K k := by
  have hw : 0 < w := by
    rcases Nat.eq_zero_or_pos w with q | q
    · rw [q, Nat.zero_mul] at hk; omega
    · exact q
  have h1 : k % w < w := Nat.mod_lt k hw
  have h2 : k / w < h := Nat.div_lt_of_lt_mul hk
  have e : (w : Int) * ((k / w : Nat) : Int) + ((k % w : Nat) : Int) = (k : Int) := by
    have := Nat.div_add_mod k w
    rw [← Int.natCast_mul, ← Int.natCast_add, this]
  rw [vK, cellZ_in (Int.natCast_nonneg _) (Int.ofNat_lt.mpr h1) (Int.natCast_nonneg _) (Int.ofNat_lt.mpr h2), e, kindZ_in (by omega) (by omega), Int.toNat_natCast]
/-- grids -/
def okG (g : Int → Int → Int) : Prop := ∀ x y, 0 ≤ g x y ∧ g x y ≤ 3
theorem okG_vK {w h : Nat} {K : Nat → Int} (hK : okK K) : okG (vK w h K) := fun x y => vK_rng hK w h x y
def arG (g : Int → Int → Int) (x y kd : Int) : Nat := cntI (fun d => g (x + dX d) (y + dY d)) kd 8
def wiG (g : Int → Int → Int) (x y : Int) : Nat := cntN (fun d => g (x + dX d) (y + dY d)) 0 8
def cntG (w h : Nat) (g : Int → Int → Int) (kd : Int) : Nat := cntI (fun k => g ((k % w : Nat) : Int) ((k / w : Nat) : Int)) kd (w * h)
theorem cnt_vK {w h : Nat} {K : Nat → Int} (hs : w * h ≤ 100) (kd : Int) : cntI K kd (w * h) = cntG w h (vK w h K) kd := cntI_cong fun k hk => by rw [vK_at hs hk]
def stepG (g : Int → Int → Int) : Int → Int → Int := fun x y => nextZ (g x y) (arG g x y 2)
theorem stepK_vK {w h : Nat} {K : Nat → Int} (hs : w * h ≤ 100) : vK w h (stepK w h K) = stepG (vK w h K) := by
  funext x y
  show vK w h (stepK w h K) x y = nextZ (vK w h K x y) (arG (vK w h K) x y 2)
  by_cases z : inB w h x y
  · have hd := cellZ_inB z
    have hr := cellZ_rng w h x y
    obtain ⟨h1, h2, h3⟩ := cell_mod z.1 z.2.1 z.2.2.1 z.2.2.2
    have e1 : vK w h (stepK w h K) x y = stepK w h K (cellZ w h x y).toNat := kindZ_in hd.2 (by omega)
    have e2 : vK w h K x y = K (cellZ w h x y).toNat := kindZ_in hd.2 (by omega)
    rw [e1, e2, stepK, stepI, if_pos h1, h2, h3]
    rfl
  · have e : cellZ w h x y = -1 := if_neg z
    have e1 : vK w h (stepK w h K) x y = 0 := by rw [vK, e]; exact kindZ_out (Or.inl (by decide))
    have e2 : vK w h K x y = 0 := by rw [vK, e]; exact kindZ_out (Or.inl (by decide))
    rw [e1, e2]
    rfl
theorem stepK_ok {w h : Nat} {K : Nat → Int} (hK : okK K) : okK (stepK w h K) := stepI_ok hK _
theorem stepK_tl {w h : Nat} {K : Nat → Int} (ht : tlK w h K) : tlK w h (stepK w h K) := by
  intro k h1 h2
  rw [stepK, stepI, if_neg (by omega)]
  exact ht k h1 h2
/-- copper where it is empty -/
def layG (g : Int → Int → Int) (x y : Int) : Int → Int → Int := if g x y = 0 then up2 g x y 1 else g
def layN (g : Int → Int → Int) (x y : Int) : Nat := if g x y = 0 then 1 else 0
def linG (g : Int → Int → Int) (x y sx sy : Int) : Nat → (Int → Int → Int) × Nat
  | 0 => (g, 0)
  | i + 1 => (layG (linG g x y sx sy i).1 (x + i * sx) (y + i * sy), (linG g x y sx sy i).2 + layN (linG g x y sx sy i).1 (x + i * sx) (y + i * sy))
/-- two cells, one after the other -/
def lay2 (p : (Int → Int → Int) × Nat) (x y x2 y2 : Int) : (Int → Int → Int) × Nat := (layG (layG p.1 x y) x2 y2, p.2 + (layN p.1 x y + layN (layG p.1 x y) x2 y2))
def rinA (g : Int → Int → Int) (x y h0 : Int) : Nat → (Int → Int → Int) × Nat
  | 0 => (g, 0)
  | i + 1 => lay2 (rinA g x y h0 i) (x + ((i + 1 : Nat) : Int)) y (x + ((i + 1 : Nat) : Int)) (y + h0 - 1)
def rinB (p : (Int → Int → Int) × Nat) (x y w0 : Int) : Nat → (Int → Int → Int) × Nat
  | 0 => p
  | i + 1 => lay2 (rinB p x y w0 i) x (y + ((i + 1 : Nat) : Int)) (x + w0 - 1) (y + ((i + 1 : Nat) : Int))
/-- a stamp's cells by quarter turns -/
def trX (i : Nat) : Nat → Nat × Nat
  | 0 => (i % 3, i / 3)
  | k + 1 => (2 - (trX i k).2, (trX i k).1)
theorem trX_le {i : Nat} (hi : i < 9) : ∀ k, (trX i k).1 ≤ 2 ∧ (trX i k).2 ≤ 2
  | 0 => by
    show i % 3 ≤ 2 ∧ i / 3 ≤ 2
    omega
  | k + 1 => by
    have := trX_le hi k
    show 2 - (trX i k).2 ≤ 2 ∧ (trX i k).1 ≤ 2
    omega
def trn (i k : Nat) : Nat := (trX i k).2 * 3 + (trX i k).1
def stcG (g : Int → Int → Int) (st tn : Nat) (x y : Int) : Nat → (Int → Int → Int) × Nat
  | 0 => (g, 0)
  | i + 1 =>
    if (stcG g st tn x y i).1 (x + ((trn i tn % 3 : Nat) : Int)) (y + ((trn i tn / 3 : Nat) : Int)) = stampedF (st * 9 + i) then stcG g st tn x y i
    else (up2 (stcG g st tn x y i).1 (x + ((trn i tn % 3 : Nat) : Int)) (y + ((trn i tn / 3 : Nat) : Int)) (stampedF (st * 9 + i)), (stcG g st tn x y i).2 + 1)
/-- what goes by in a step: cells, times lit, latest times, steps, heads added -/
abbrev Ps : Type := (Int → Int → Int) × (Nat → Int) × (Nat → Int) × Nat × Int
def oneG (w h n : Nat) (LX LY : Nat → Int) (p : Ps) : Ps := (stepG p.1, litI (fun k => stepG p.1 (LX k) (LY k)) p.2.1 n, latI (fun k => stepG p.1 (LX k) (LY k)) p.2.2.1 ((p.2.2.2.1 + 1 : Nat) : Int) n, p.2.2.2.1 + 1, p.2.2.2.2 + (cntG w h (stepG p.1) 2 : Nat))
def passG (w h n : Nat) (LX LY : Nat → Int) (p : Ps) : Nat → Ps
  | 0 => p
  | i + 1 => oneG w h n LX LY (passG w h n LX LY p i)
def itG (g : Int → Int → Int) : Nat → Int → Int → Int
  | 0 => g
  | i + 1 => stepG (itG g i)
theorem passG_g (w h n : Nat) (LX LY : Nat → Int) (p : Ps) : ∀ i, (passG w h n LX LY p i).1 = itG p.1 i
  | 0 => rfl
  | i + 1 => by
    show stepG (passG w h n LX LY p i).1 = stepG (itG p.1 i)
    rw [passG_g w h n LX LY p i]
def lI (z : Int) : Int64 := Int64.ofInt z
theorem lI_add (a b : Int) : lI a + lI b = lI (a + b) := (Int64.ofInt_add a b).symm
theorem iI_l {a : Int} (h : inR a) : (iI a).toInt64 = lI a := by
  have e : lI a = lI (iI a).toInt := by rw [iI_toInt h]
  rw [e]
  exact (Int64.ofInt_int32ToInt _).symm
abbrev eIA : String := "java/lang/IllegalArgumentException"
abbrev eIB : String := "java/lang/IndexOutOfBoundsException"
abbrev eIS : String := "java/lang/IllegalStateException"
/-- the codes of the calls' refusals: 0 none, 1 the first named, 2 the second -/
def cdSide (x y : Int) : Int := if 3 ≤ x ∧ x ≤ 10 ∧ 3 ≤ y ∧ y ≤ 10 then 0 else 1
def cdSet (w h : Nat) (x y v : Int) : Int := if inB w h x y then (if 0 ≤ v ∧ v ≤ 3 then 0 else 2) else 1
def cdLine (w h : Nat) (x y tx ty : Int) : Int := if inB w h x y ∧ inB w h tx ty then (if x = tx ∨ y = ty ∨ tx - x = ty - y ∨ tx - x = y - ty then 0 else 2) else 1
def cdRing (w h : Nat) (x y a b : Int) : Int := if 3 ≤ a ∧ 3 ≤ b then (if inB w h x y ∧ a ≤ w - x ∧ b ≤ h - y then 0 else 2) else 1
def cdStamp (w h : Nat) (st tn x y : Int) : Int := if 0 ≤ st ∧ st ≤ 3 ∧ 0 ≤ tn ∧ tn ≤ 3 ∧ inB w h x y ∧ 3 ≤ w - x ∧ 3 ≤ h - y then 0 else 1
def cdSpark (w h : Nat) (g : Int → Int → Int) (x y d : Int) : Int := if inB w h x y ∧ 0 ≤ d ∧ d ≤ 7 then (if g x y = 1 ∧ g (x - dX d.toNat) (y - dY d.toNat) = 1 then 0 else 2) else 1
def cdLamp (w h n : Nat) (x y : Int) : Int := if inB w h x y then (if n < 5 then 0 else 2) else 1
def cdPass (k : Int) : Int := if 1 ≤ k ∧ k ≤ 100 then 0 else 1
def cdTold (w h : Nat) (x y k : Int) : Int := if inB w h x y ∧ 0 ≤ k ∧ k ≤ 4 then 0 else 1
def cdAbout (n : Nat) (i k : Int) : Int := if 0 ≤ i ∧ i < n ∧ 0 ≤ k ∧ k ≤ 3 then 0 else 1
def cdCount (k : Int) : Int := if 0 ≤ k ∧ k ≤ 9 then 0 else 1
def cdWay (w h : Nat) (x y tx ty : Int) : Int := if inB w h x y ∧ inB w h tx ty then 0 else 1
def cdPeriod (k : Int) : Int := if 0 ≤ k ∧ k ≤ 1 then 0 else 1
def cdUntil (w h : Nat) (x y : Int) : Int := if inB w h x y then 0 else 1
def cdFore (s k : Int) : Int := if 1 ≤ s ∧ s ≤ 100 then (if (3 ≤ k ∧ k ≤ 5) ∨ k = 9 then 0 else 2) else 1
def cdAdv (s : Int) : Int := if 1 ≤ s ∧ s ≤ 4 then 0 else 1
def toldG (g : Int → Int → Int) (x y k : Int) : Int := if k = 0 then g x y else if k = 1 then (arG g x y 2 : Nat) else if k = 2 then stepG g x y else if k = 3 then (pieceG g x y : Nat) else (wiG g x y : Nat)
def aboutL (LX LY LL LA : Nat → Int) (i : Nat) (k : Int) : Int := if k = 0 then LX i else if k = 1 then LY i else if k = 2 then LL i else LA i
def countG (w h n sg : Nat) (g : Int → Int → Int) (LL : Nat → Int) (k : Int) : Int := if k = 0 then (sg : Int) else if k = 1 then (w : Int) else if k = 2 then (h : Int) else if k = 3 then (cntG w h g 1 : Nat) else if k = 4 then (cntG w h g 2 : Nat) else if k = 5 then (cntG w h g 3 : Nat) else if k = 6 then (pcsG w g (w * h) : Nat) else if k = 7 then (lonG w g (w * h) : Nat) else if k = 8 then (n : Int) else sumZ LL n
def cmpZ (a b : Int) : Int := if a < b then -1 else if a = b then 0 else 1
theorem cmpZ_rng (a b : Int) : -1 ≤ cmpZ a b ∧ cmpZ a b ≤ 1 := by
  unfold cmpZ
  split
  · omega
  · split <;> omega
def lenZ (x y tx ty : Int) : Nat := max (tx - x).natAbs (ty - y).natAbs
def lineG (g : Int → Int → Int) (x y tx ty : Int) : (Int → Int → Int) × Nat := linG g x y (cmpZ tx x) (cmpZ ty y) (lenZ x y tx ty + 1)
theorem lin_in {w h i : Nat} {x y tx ty : Int} (h1 : inB w h x y) (h2 : inB w h tx ty) (ha : x = tx ∨ y = ty ∨ tx - x = ty - y ∨ tx - x = y - ty) (hi : i ≤ lenZ x y tx ty) : inB w h (x + (i : Int) * cmpZ tx x) (y + (i : Int) * cmpZ ty y) := by
  unfold lenZ at hi
  unfold cmpZ
  split <;> split <;> (try split) <;> (try split) <;> omega
def ringG (g : Int → Int → Int) (x y w0 h0 : Int) : (Int → Int → Int) × Nat := rinB (rinA g x y h0 (w0 - 2).toNat) x y w0 (h0 - 2).toNat
theorem stampedF_rng : ∀ j, 0 ≤ stampedF j ∧ stampedF j ≤ 1 := by
  intro j
  by_cases q : j < 36
  · have : ∀ j, j < 36 → 0 ≤ stampedF j ∧ stampedF j ≤ 1 := by decide +kernel
    exact this j q
  · have e : stampedF j = 0 := by
      unfold stampedF
      rw [List.getD_eq_getElem?_getD, List.getElem?_eq_none (Nat.le_of_not_lt q)]
      rfl
    rw [e]
    omega
def sparkG (g : Int → Int → Int) (x y : Int) (d : Nat) : Int → Int → Int := up2 (up2 g x y 2) (x - dX d) (y - dY d) 3
theorem cntG_le (w h : Nat) (g : Int → Int → Int) (kd : Int) : cntG w h g kd ≤ w * h := cntI_le _ _ _
theorem passG_sg (w h n : Nat) (LX LY : Nat → Int) (p : Ps) : ∀ i, (passG w h n LX LY p i).2.2.2.1 = p.2.2.2.1 + i
  | 0 => rfl
  | i + 1 => by
    show (passG w h n LX LY p i).2.2.2.1 + 1 = p.2.2.2.1 + (i + 1)
    rw [passG_sg w h n LX LY p i]
    omega
/-- lamps alight behind each of the first s steps, added -/
def aliG (g : Int → Int → Int) (n : Nat) (LX LY : Nat → Int) : Nat → Nat
  | 0 => 0
  | i + 1 => aliG g n LX LY i + cntI (fun k => itG g (i + 1) (LX k) (LY k)) 2 n
def foreG (w h n : Nat) (g : Int → Int → Int) (LX LY LL : Nat → Int) (s : Nat) (k : Int) : Int := if k = 9 then sumZ LL n + (aliG g n LX LY s : Nat) else (cntG w h (itG g s) (k - 2) : Nat)
/-- heads behind s steps, if the cell with a number was empty now -/
def cutG (w h : Nat) (g : Int → Int → Int) (s k : Nat) : Nat := cntG w h (itG (up2 g ((k % w : Nat) : Int) ((k / w : Nat) : Int) 0) s) 2
def advI (w h : Nat) (g : Int → Int → Int) (s : Nat) : Nat → Nat × Int
  | 0 => (cntG w h (itG g s) 2, -1)
  | k + 1 => if g ((k % w : Nat) : Int) ((k / w : Nat) : Int) = 1 ∧ cutG w h g s k < (advI w h g s k).1 then (cutG w h g s k, (k : Int)) else advI w h g s k
theorem advI_t {w h s k : Nat} {g : Int → Int → Int} (h1 : g ((k % w : Nat) : Int) ((k / w : Nat) : Int) = 1) (h2 : cutG w h g s k < (advI w h g s k).1) : advI w h g s (k + 1) = (cutG w h g s k, (k : Int)) := by rw [advI, if_pos ⟨h1, h2⟩]
theorem advI_f {w h s k : Nat} {g : Int → Int → Int} (h1 : ¬(g ((k % w : Nat) : Int) ((k / w : Nat) : Int) = 1 ∧ cutG w h g s k < (advI w h g s k).1)) : advI w h g s (k + 1) = advI w h g s k := by rw [advI, if_neg h1]
theorem advI_le (w h : Nat) (g : Int → Int → Int) (s : Nat) : ∀ k, (advI w h g s k).1 ≤ w * h
  | 0 => cntG_le _ _ _ _
  | k + 1 => by
    rw [advI]
    split
    · exact cntG_le _ _ _ _
    · exact advI_le w h g s k
theorem cell_of {w h k : Nat} (hk : k < w * h) : inB w h ((k % w : Nat) : Int) ((k / w : Nat) : Int) ∧ (cellZ w h ((k % w : Nat) : Int) ((k / w : Nat) : Int)).toNat = k := by
  have hw : 0 < w := by
    rcases Nat.eq_zero_or_pos w with q | q
    · rw [q, Nat.zero_mul] at hk; omega
    · exact q
  have h1 : k % w < w := Nat.mod_lt k hw
  have h2 : k / w < h := Nat.div_lt_of_lt_mul hk
  have hi : inB w h ((k % w : Nat) : Int) ((k / w : Nat) : Int) := ⟨Int.natCast_nonneg _, Int.ofNat_lt.mpr h1, Int.natCast_nonneg _, Int.ofNat_lt.mpr h2⟩
  refine ⟨hi, ?_⟩
  have e : (w : Int) * ((k / w : Nat) : Int) + ((k % w : Nat) : Int) = (k : Int) := by
    have := Nat.div_add_mod k w
    rw [← Int.natCast_mul, ← Int.natCast_add, this]
  rw [(cellZ_inB hi).1, e, Int.toNat_natCast]
theorem vK_cut {w h k : Nat} {K : Nat → Int} (hs : w * h ≤ 100) (hk : k < w * h) (v : Int) : vK w h (upZ K k v) = up2 (vK w h K) ((k % w : Nat) : Int) ((k / w : Nat) : Int) v := by
  obtain ⟨h1, h2⟩ := cell_of hk
  have := vK_put (K := K) (v := v) hs h1
  rw [h2] at this
  exact this
/-- behind how many steps a cell is a head -/
def isUnt (g : Int → Int → Int) (x y : Int) (t : Nat) : Prop := t ≤ 150 ∧ itG g t x y = 2 ∧ ∀ u, u < t → itG g u x y ≠ 2
noncomputable def untG (g : Int → Int → Int) (x y : Int) : Int := @dite Int (∃ t, isUnt g x y t) (Classical.propDecidable _) (fun h => ((Classical.choose h : Nat) : Int)) (fun _ => -1)
theorem isUnt_one {g : Int → Int → Int} {x y : Int} {t u : Nat} (h1 : isUnt g x y t) (h2 : isUnt g x y u) : t = u := by
  rcases Nat.lt_trichotomy t u with q | q | q
  · exact absurd h1.2.1 (h2.2.2 t q)
  · exact q
  · exact absurd h2.2.1 (h1.2.2 u q)
theorem untG_of {g : Int → Int → Int} {x y : Int} {t : Nat} (h : isUnt g x y t) : untG g x y = (t : Int) := by
  unfold untG
  rw [dif_pos ⟨t, h⟩, isUnt_one (Classical.choose_spec ⟨t, h⟩) h]
theorem untG_no {g : Int → Int → Int} {x y : Int} (h : ∀ t, t ≤ 150 → itG g t x y ≠ 2) : untG g x y = -1 := by
  unfold untG
  rw [dif_neg (fun ⟨t, q⟩ => h t q.1 q.2.1)]
/-- the board comes again -/
def isPer (g : Int → Int → Int) (e t : Nat) : Prop := t ≤ 90 ∧ e < t ∧ itG g e = itG g t ∧ (∀ j, j < e → itG g j ≠ itG g t) ∧ ∀ u, u < t → ∀ j, j < u → itG g j ≠ itG g u
theorem isPer_one {g : Int → Int → Int} {e t e2 t2 : Nat} (h1 : isPer g e t) (h2 : isPer g e2 t2) : e = e2 ∧ t = t2 := by
  have ht : t = t2 := by
    rcases Nat.lt_trichotomy t t2 with q | q | q
    · exact absurd h1.2.2.1 (h2.2.2.2.2 t q e h1.2.1)
    · exact q
    · exact absurd h2.2.2.1 (h1.2.2.2.2 t2 q e2 h2.2.1)
  subst ht
  refine ⟨?_, rfl⟩
  rcases Nat.lt_trichotomy e e2 with q | q | q
  · exact absurd h1.2.2.1 (h2.2.2.2.1 e q)
  · exact q
  · exact absurd h2.2.2.1 (h1.2.2.2.1 e2 q)
noncomputable def perG (g : Int → Int → Int) (k : Int) : Int := @dite Int (∃ q : Nat × Nat, isPer g q.1 q.2) (Classical.propDecidable _) (fun h => if k = 0 then (((Classical.choose h).1 : Nat) : Int) else (((Classical.choose h).2 : Nat) : Int) - (((Classical.choose h).1 : Nat) : Int)) (fun _ => -1)
theorem perG_of {g : Int → Int → Int} {k : Int} {e t : Nat} (h : isPer g e t) : perG g k = if k = 0 then (e : Int) else (t : Int) - (e : Int) := by
  have h0 : ∃ q : Nat × Nat, isPer g q.1 q.2 := ⟨(e, t), h⟩
  unfold perG
  rw [dif_pos h0]
  obtain ⟨e1, e2⟩ := isPer_one (Classical.choose_spec h0) h
  rw [e1, e2]
theorem perG_no {g : Int → Int → Int} {k : Int} (h : ∀ t, t ≤ 90 → ∀ j, j < t → itG g j ≠ itG g t) : perG g k = -1 := by
  unfold perG
  rw [dif_neg (fun ⟨q, z⟩ => h q.2 z.1 q.1 z.2.1 z.2.2.1)]
/-- a grid as a row of numbers -/
def encK (w h : Nat) (g : Int → Int → Int) : Nat → Int := fun k => if k < w * h then g ((k % w : Nat) : Int) ((k / w : Nat) : Int) else 0
theorem encK_of {w h : Nat} {K : Nat → Int} (hs : w * h ≤ 100) (ht : tlK w h K) {k : Nat} (hk : k < 100) : K k = encK w h (vK w h K) k := by
  unfold encK
  by_cases q : k < w * h
  · rw [if_pos q, vK_at hs q]
  · rw [if_neg q]
    exact ht k (by omega) hk
theorem pkZ_cong {K K2 : Nat → Int} {f : Nat} : ∀ n, (∀ k, k < n → K (f + k) = K2 (f + k)) → pkZ K f n = pkZ K2 f n
  | 0, _ => rfl
  | n + 1, h => by rw [pkZ_s, pkZ_s, pkZ_cong n (fun k hk => h k (by omega)), h n (by omega)]
/-- boards kept step by step -/
def keptW (w h : Nat) (g : Int → Int → Int) (PW : Nat → Int64) (t : Nat) : Prop := ∀ u, u ≤ t → ∀ j, j < 4 → PW (u * 4 + j) = pkZ (encK w h (itG g u)) (j * 25) 25
theorem keepI_at {K : Nat → Int} {PW : Nat → Int64} {s : Nat} : ∀ n k, keepI K PW s n k = if s * 4 ≤ k ∧ k < s * 4 + n then pkZ K ((k - s * 4) * 25) 25 else PW k
  | 0, k => by
    rw [if_neg (by omega)]
    rfl
  | n + 1, k => by
    show vp_updL (keepI K PW s n) (s * 4 + n) (pkZ K (n * 25) 25) k = _
    by_cases q : k = s * 4 + n
    · rw [q, pk_uLs, if_pos ⟨by omega, by omega⟩, show s * 4 + n - s * 4 = n by omega]
    · rw [pk_uLn q, keepI_at n k]
      by_cases z : s * 4 ≤ k ∧ k < s * 4 + n
      · rw [if_pos z, if_pos ⟨z.1, by omega⟩]
      · rw [if_neg z, if_neg (by omega)]
theorem kept_keep {w h : Nat} {g : Int → Int → Int} {K : Nat → Int} {PW : Nat → Int64} {t : Nat} (hs : w * h ≤ 100) (ht : tlK w h K) (hk : vK w h K = itG g t) (hp : ∀ u, u < t → ∀ j, j < 4 → PW (u * 4 + j) = pkZ (encK w h (itG g u)) (j * 25) 25) : keptW w h g (keepI K PW t 4) t := by
  intro u hu j hj
  rw [keepI_at]
  by_cases q : u = t
  · subst q
    rw [if_pos ⟨by omega, by omega⟩, show u * 4 + j - u * 4 = j by omega, ← hk]
    exact pkZ_cong 25 (fun k hk2 => encK_of hs ht (by omega))
  · rw [if_neg (by omega)]
    exact hp u (by omega) j hj
/-- a checksum goes on by a number, by some, by rows of some -/
def dg (d : Int64) (x : Int) : Int64 := d * 31 + (iI x).toInt64
def dgC (f : Nat → Int) (d : Int64) : Nat → Int64
  | 0 => d
  | n + 1 => dg (dgC f d n) (f n)
def dgD (ff : Nat → Nat → Int) (m : Nat) (d : Int64) : Nat → Int64
  | 0 => d
  | n + 1 => dgC (ff n) (dgD ff m d n) m
def dCount (w h n sg : Nat) (g : Int → Int → Int) (LL : Nat → Int) : Nat → Int := fun k => countG w h n sg g LL (k : Int)
def dTold (w : Nat) (g : Int → Int → Int) : Nat → Nat → Int := fun c k => toldG g ((c % w : Nat) : Int) ((c / w : Nat) : Int) (k : Int)
def dAbout (LX LY LL LA : Nat → Int) : Nat → Nat → Int := fun i k => aboutL LX LY LL LA ((i : Nat) : Int).toNat (k : Int)
def digG (w h n sg : Nat) (g : Int → Int → Int) (LX LY LL LA : Nat → Int) (hz : Int) : Int64 := dgD (dAbout LX LY LL LA) 4 (dgD (dTold w g) 5 (dgC (dCount w h n sg g LL) 1723 10) (w * h)) n * 31 + lI hz
