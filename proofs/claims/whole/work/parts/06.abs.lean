abbrev inB (w h : Nat) (x y : Int) : Prop := 0 ≤ x ∧ x < w ∧ 0 ≤ y ∧ y < h
theorem cellZ_inB {w h : Nat} {x y : Int} (hi : inB w h x y) : cellZ w h x y = w * y + x ∧ 0 ≤ cellZ w h x y := by
  rw [cellZ_in hi.1 hi.2.1 hi.2.2.1 hi.2.2.2]
  exact ⟨rfl, (idx_lt hi.1 hi.2.1 hi.2.2.1 hi.2.2.2).1⟩
theorem inB_cell {w h : Nat} {x y : Int} (h0 : cellZ w h x y ≠ -1) : inB w h x y := Decidable.byContradiction fun q => h0 (if_neg q)
theorem cell_inB {w h : Nat} {x y : Int} (h0 : cellZ w h x y = -1) : ¬ inB w h x y := fun q => by
  have := (cellZ_inB q).2
  omega
/-- the cells beyond the board's are empty -/
def tlK (w h : Nat) (K : Nat → Int) : Prop := ∀ k, w * h ≤ k → k < 100 → K k = 0
theorem tlK_put {w h : Nat} {K : Nat → Int} {x y v : Int} (hi : inB w h x y) (ht : tlK w h K) : tlK w h (upZ K (cellZ w h x y).toNat v) := by
  intro k h1 h2
  have := (cell_mod hi.1 hi.2.1 hi.2.2.1 hi.2.2.2).1
  rw [upZ_n (by omega)]
  exact ht k h1 h2
theorem okK_put {K : Nat → Int} {j : Nat} {v : Int} (hv : 0 ≤ v ∧ v ≤ 3) (hK : okK K) : okK (upZ K j v) := by
  intro k
  by_cases q : k = j
  · rw [q, upZ_s]; exact hv
  · rw [upZ_n q]; exact hK k
theorem vK_put {w h : Nat} {K : Nat → Int} {x y v : Int} (hs : w * h ≤ 100) (hi : inB w h x y) : vK w h (upZ K (cellZ w h x y).toNat v) = up2 (vK w h K) x y v := by
  funext a b
  have hc := cellZ_inB hi
  have hr := cellZ_rng w h x y
  by_cases q : a = x ∧ b = y
  · rw [q.1, q.2, up2_s, vK, kindZ_in hc.2 (by omega), upZ_s]
  · rw [up2_n q, vK, vK]
    by_cases z : inB w h a b
    · have hd := cellZ_inB z
      have hr2 := cellZ_rng w h a b
      rw [kindZ_in hd.2 (by omega), kindZ_in hd.2 (by omega), upZ_n]
      intro e
      have e2 : (w : Int) * b + a = w * y + x := by rw [← hd.1, ← hc.1]; omega
      exact q (idx_inj z.1 z.2.1 hi.1 hi.2.1 z.2.2.1 hi.2.2.1 e2)
    · have : cellZ w h a b = -1 := if_neg z
      rw [this, kindZ_out (Or.inl (by decide)), kindZ_out (Or.inl (by decide))]
theorem vK_at {w h : Nat} {K : Nat → Int} (hs : w * h ≤ 100) {k : Nat} (hk : k < w * h) : vK w h K ((k % w : Nat) : Int) ((k / w : Nat) : Int) = K k := by
  have hw : 0 < w := by
    rcases Nat.eq_zero_or_pos w with q | q
    · rw [q, Nat.zero_mul] at hk; omega
    · exact q
  have h1 : k % w < w := Nat.mod_lt k hw
  have h2 : k / w < h := Nat.div_lt_of_lt_mul hk
  have e : (w : Int) * ((k / w : Nat) : Int) + ((k % w : Nat) : Int) = (k : Int) := by
    have := Nat.div_add_mod k w
    rw [← Int.natCast_mul, ← Int.natCast_add, this]
  rw [vK, cellZ_in (Int.natCast_nonneg _) (Int.ofNat_lt.mpr h1) (Int.natCast_nonneg _) (Int.ofNat_lt.mpr h2), e, kindZ_in (by omega) (by omega), Int.toNat_natCast]
/-- grids -/
def okG (g : Int → Int → Int) : Prop := ∀ x y, 0 ≤ g x y ∧ g x y ≤ 3
theorem okG_vK {w h : Nat} {K : Nat → Int} (hK : okK K) : okG (vK w h K) := fun x y => vK_rng hK w h x y
def arG (g : Int → Int → Int) (x y kd : Int) : Nat := cntI (fun d => g (x + dX d) (y + dY d)) kd 8
def wiG (g : Int → Int → Int) (x y : Int) : Nat := cntN (fun d => g (x + dX d) (y + dY d)) 0 8
def cntG (w h : Nat) (g : Int → Int → Int) (kd : Int) : Nat := cntI (fun k => g ((k % w : Nat) : Int) ((k / w : Nat) : Int)) kd (w * h)
theorem cnt_vK {w h : Nat} {K : Nat → Int} (hs : w * h ≤ 100) (kd : Int) : cntI K kd (w * h) = cntG w h (vK w h K) kd := cntI_cong fun k hk => by rw [vK_at hs hk]
def stepG (g : Int → Int → Int) : Int → Int → Int := fun x y => nextZ (g x y) (arG g x y 2)
theorem stepK_vK {w h : Nat} {K : Nat → Int} (hs : w * h ≤ 100) : vK w h (stepK w h K) = stepG (vK w h K) := by
  funext x y
  show vK w h (stepK w h K) x y = nextZ (vK w h K x y) (arG (vK w h K) x y 2)
  by_cases z : inB w h x y
  · have hd := cellZ_inB z
    have hr := cellZ_rng w h x y
    obtain ⟨h1, h2, h3⟩ := cell_mod z.1 z.2.1 z.2.2.1 z.2.2.2
    have e1 : vK w h (stepK w h K) x y = stepK w h K (cellZ w h x y).toNat := kindZ_in hd.2 (by omega)
    have e2 : vK w h K x y = K (cellZ w h x y).toNat := kindZ_in hd.2 (by omega)
    rw [e1, e2, stepK, stepI, if_pos h1, h2, h3]
    rfl
  · have e : cellZ w h x y = -1 := if_neg z
    have e1 : vK w h (stepK w h K) x y = 0 := by rw [vK, e]; exact kindZ_out (Or.inl (by decide))
    have e2 : vK w h K x y = 0 := by rw [vK, e]; exact kindZ_out (Or.inl (by decide))
    rw [e1, e2]
    rfl
theorem stepK_ok {w h : Nat} {K : Nat → Int} (hK : okK K) : okK (stepK w h K) := stepI_ok hK _
theorem stepK_tl {w h : Nat} {K : Nat → Int} (ht : tlK w h K) : tlK w h (stepK w h K) := by
  intro k h1 h2
  rw [stepK, stepI, if_neg (by omega)]
  exact ht k h1 h2
/-- copper where it is empty -/
def layG (g : Int → Int → Int) (x y : Int) : Int → Int → Int := if g x y = 0 then up2 g x y 1 else g
def layN (g : Int → Int → Int) (x y : Int) : Nat := if g x y = 0 then 1 else 0
def linG (g : Int → Int → Int) (x y sx sy : Int) : Nat → (Int → Int → Int) × Nat
  | 0 => (g, 0)
  | i + 1 => (layG (linG g x y sx sy i).1 (x + i * sx) (y + i * sy), (linG g x y sx sy i).2 + layN (linG g x y sx sy i).1 (x + i * sx) (y + i * sy))
/-- two cells, one after the other -/
def lay2 (p : (Int → Int → Int) × Nat) (x y x2 y2 : Int) : (Int → Int → Int) × Nat := (layG (layG p.1 x y) x2 y2, p.2 + (layN p.1 x y + layN (layG p.1 x y) x2 y2))
def rinA (g : Int → Int → Int) (x y h0 : Int) : Nat → (Int → Int → Int) × Nat
  | 0 => (g, 0)
  | i + 1 => lay2 (rinA g x y h0 i) (x + ((i + 1 : Nat) : Int)) y (x + ((i + 1 : Nat) : Int)) (y + h0 - 1)
def rinB (p : (Int → Int → Int) × Nat) (x y w0 : Int) : Nat → (Int → Int → Int) × Nat
  | 0 => p
  | i + 1 => lay2 (rinB p x y w0 i) x (y + ((i + 1 : Nat) : Int)) (x + w0 - 1) (y + ((i + 1 : Nat) : Int))
/-- a stamp's cells by quarter turns -/
def trX (i : Nat) : Nat → Nat × Nat
  | 0 => (i % 3, i / 3)
  | k + 1 => (2 - (trX i k).2, (trX i k).1)
theorem trX_le {i : Nat} (hi : i < 9) : ∀ k, (trX i k).1 ≤ 2 ∧ (trX i k).2 ≤ 2
  | 0 => by
    show i % 3 ≤ 2 ∧ i / 3 ≤ 2
    omega
  | k + 1 => by
    have := trX_le hi k
    show 2 - (trX i k).2 ≤ 2 ∧ (trX i k).1 ≤ 2
    omega
def trn (i k : Nat) : Nat := (trX i k).2 * 3 + (trX i k).1
def stcG (g : Int → Int → Int) (st tn : Nat) (x y : Int) : Nat → (Int → Int → Int) × Nat
  | 0 => (g, 0)
  | i + 1 =>
    if (stcG g st tn x y i).1 (x + ((trn i tn % 3 : Nat) : Int)) (y + ((trn i tn / 3 : Nat) : Int)) = stampedF (st * 9 + i) then stcG g st tn x y i
    else (up2 (stcG g st tn x y i).1 (x + ((trn i tn % 3 : Nat) : Int)) (y + ((trn i tn / 3 : Nat) : Int)) (stampedF (st * 9 + i)), (stcG g st tn x y i).2 + 1)
/-- what goes by in a step: cells, times lit, latest times, steps, heads added -/
abbrev Ps : Type := (Int → Int → Int) × (Nat → Int) × (Nat → Int) × Nat × Int
def oneG (w h n : Nat) (LX LY : Nat → Int) (p : Ps) : Ps := (stepG p.1, litI (fun k => stepG p.1 (LX k) (LY k)) p.2.1 n, latI (fun k => stepG p.1 (LX k) (LY k)) p.2.2.1 ((p.2.2.2.1 + 1 : Nat) : Int) n, p.2.2.2.1 + 1, p.2.2.2.2 + (cntG w h (stepG p.1) 2 : Nat))
def passG (w h n : Nat) (LX LY : Nat → Int) (p : Ps) : Nat → Ps
  | 0 => p
  | i + 1 => oneG w h n LX LY (passG w h n LX LY p i)
def itG (g : Int → Int → Int) : Nat → Int → Int → Int
  | 0 => g
  | i + 1 => stepG (itG g i)
theorem passG_g (w h n : Nat) (LX LY : Nat → Int) (p : Ps) : ∀ i, (passG w h n LX LY p i).1 = itG p.1 i
  | 0 => rfl
  | i + 1 => by
    show stepG (passG w h n LX LY p i).1 = stepG (itG p.1 i)
    rw [passG_g w h n LX LY p i]
def lI (z : Int) : Int64 := Int64.ofInt z
theorem lI_add (a b : Int) : lI a + lI b = lI (a + b) := (Int64.ofInt_add a b).symm
theorem iI_l {a : Int} (h : inR a) : (iI a).toInt64 = lI a := by
  have e : lI a = lI (iI a).toInt := by rw [iI_toInt h]
  rw [e]
  exact (Int64.ofInt_int32ToInt _).symm
abbrev eIA : String := "java/lang/IllegalArgumentException"
abbrev eIB : String := "java/lang/IndexOutOfBoundsException"
abbrev eIS : String := "java/lang/IllegalStateException"
/-- the codes of the calls' refusals: 0 none, 1 the first named, 2 the second -/
def cdSide (x y : Int) : Int := if 3 ≤ x ∧ x ≤ 10 ∧ 3 ≤ y ∧ y ≤ 10 then 0 else 1
def cdSet (w h : Nat) (x y v : Int) : Int := if inB w h x y then (if 0 ≤ v ∧ v ≤ 3 then 0 else 2) else 1
def cdLine (w h : Nat) (x y tx ty : Int) : Int := if inB w h x y ∧ inB w h tx ty then (if x = tx ∨ y = ty ∨ tx - x = ty - y ∨ tx - x = y - ty then 0 else 2) else 1
def cdRing (w h : Nat) (x y a b : Int) : Int := if 3 ≤ a ∧ 3 ≤ b then (if inB w h x y ∧ a ≤ w - x ∧ b ≤ h - y then 0 else 2) else 1
def cdStamp (w h : Nat) (st tn x y : Int) : Int := if 0 ≤ st ∧ st ≤ 3 ∧ 0 ≤ tn ∧ tn ≤ 3 ∧ inB w h x y ∧ 3 ≤ w - x ∧ 3 ≤ h - y then 0 else 1
def cdSpark (w h : Nat) (g : Int → Int → Int) (x y d : Int) : Int := if inB w h x y ∧ 0 ≤ d ∧ d ≤ 7 then (if g x y = 1 ∧ g (x - dX d.toNat) (y - dY d.toNat) = 1 then 0 else 2) else 1
def cdLamp (w h n : Nat) (x y : Int) : Int := if inB w h x y then (if n < 5 then 0 else 2) else 1
def cdPass (k : Int) : Int := if 1 ≤ k ∧ k ≤ 100 then 0 else 1
def cdTold (w h : Nat) (x y k : Int) : Int := if inB w h x y ∧ 0 ≤ k ∧ k ≤ 4 then 0 else 1
def cdAbout (n : Nat) (i k : Int) : Int := if 0 ≤ i ∧ i < n ∧ 0 ≤ k ∧ k ≤ 3 then 0 else 1
def cdCount (k : Int) : Int := if 0 ≤ k ∧ k ≤ 9 then 0 else 1
def cdWay (w h : Nat) (x y tx ty : Int) : Int := if inB w h x y ∧ inB w h tx ty then 0 else 1
def cdPeriod (k : Int) : Int := if 0 ≤ k ∧ k ≤ 1 then 0 else 1
def cdUntil (w h : Nat) (x y : Int) : Int := if inB w h x y then 0 else 1
def cdFore (s k : Int) : Int := if 1 ≤ s ∧ s ≤ 100 then (if (3 ≤ k ∧ k ≤ 5) ∨ k = 9 then 0 else 2) else 1
def cdAdv (s : Int) : Int := if 1 ≤ s ∧ s ≤ 4 then 0 else 1
def toldG (g : Int → Int → Int) (x y k : Int) : Int := if k = 0 then g x y else if k = 1 then (arG g x y 2 : Nat) else if k = 2 then stepG g x y else if k = 3 then (pieceG g x y : Nat) else (wiG g x y : Nat)
def aboutL (LX LY LL LA : Nat → Int) (i : Nat) (k : Int) : Int := if k = 0 then LX i else if k = 1 then LY i else if k = 2 then LL i else LA i
def countG (w h n sg : Nat) (g : Int → Int → Int) (LL : Nat → Int) (k : Int) : Int := if k = 0 then (sg : Int) else if k = 1 then (w : Int) else if k = 2 then (h : Int) else if k = 3 then (cntG w h g 1 : Nat) else if k = 4 then (cntG w h g 2 : Nat) else if k = 5 then (cntG w h g 3 : Nat) else if k = 6 then (pcsG w g (w * h) : Nat) else if k = 7 then (lonG w g (w * h) : Nat) else if k = 8 then (n : Int) else sumZ LL n
def cmpZ (a b : Int) : Int := if a < b then -1 else if a = b then 0 else 1
theorem cmpZ_rng (a b : Int) : -1 ≤ cmpZ a b ∧ cmpZ a b ≤ 1 := by
  unfold cmpZ
  split
  · omega
  · split <;> omega
def lenZ (x y tx ty : Int) : Nat := max (tx - x).natAbs (ty - y).natAbs
def lineG (g : Int → Int → Int) (x y tx ty : Int) : (Int → Int → Int) × Nat := linG g x y (cmpZ tx x) (cmpZ ty y) (lenZ x y tx ty + 1)
theorem lin_in {w h i : Nat} {x y tx ty : Int} (h1 : inB w h x y) (h2 : inB w h tx ty) (ha : x = tx ∨ y = ty ∨ tx - x = ty - y ∨ tx - x = y - ty) (hi : i ≤ lenZ x y tx ty) : inB w h (x + (i : Int) * cmpZ tx x) (y + (i : Int) * cmpZ ty y) := by
  unfold lenZ at hi
  unfold cmpZ
  split <;> split <;> (try split) <;> (try split) <;> omega
def ringG (g : Int → Int → Int) (x y w0 h0 : Int) : (Int → Int → Int) × Nat := rinB (rinA g x y h0 (w0 - 2).toNat) x y w0 (h0 - 2).toNat
theorem stampedF_rng : ∀ j, 0 ≤ stampedF j ∧ stampedF j ≤ 1 := by
  intro j
  by_cases q : j < 36
  · have : ∀ j, j < 36 → 0 ≤ stampedF j ∧ stampedF j ≤ 1 := by decide +kernel
    exact this j q
  · have e : stampedF j = 0 := by
      unfold stampedF
      rw [List.getD_eq_getElem?_getD, List.getElem?_eq_none (Nat.le_of_not_lt q)]
      rfl
    rw [e]
    omega
def sparkG (g : Int → Int → Int) (x y : Int) (d : Nat) : Int → Int → Int := up2 (up2 g x y 2) (x - dX d) (y - dY d) 3
