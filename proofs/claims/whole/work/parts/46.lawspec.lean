/-- what stands between the calls of a script, behind the first t of them -/
def lwSt (D : va_G) (A : Nat → Prop) (cI cJ : ClassId) (so b ak ah b2 ak2 ah2 wo fa xa ya lo lca lra lia lta po pw ou mo mna mkp mot mlr mlk mwe mmk mln t : Nat) (H : Heap) : Prop :=
  ∃ (w : Nat) (h : Nat) (K : Nat → Int) (B : Nat → Int) (w2 : Nat) (h2 : Nat) (K2 : Nat → Int) (B2 : Nat → Int) (F : Nat → Int) (QX : Nat → Int) (QY : Nat → Int) (n : Nat) (LX : Nat → Int) (LY : Nat → Int) (LL : Nat → Int) (LA : Nat → Int) (PW : Nat → Int64) (sg : Nat) (hz : Int) (OU : Nat → Int64) (th : Int) (N : Nat → Int) (KP : Nat → Int) (OT : Nat → Int) (LR : Nat → Int) (LK : Nat → Int) (WE : Nat → Int) (MK : Nat → Int) (LN : Nat → Int), va_P D vwCl [(so, .inr (4, [.ref b, .ref b2, .ref wo, .ref lo, .ref po, .int (iI ((sg : Nat) : Int)), .long (lI hz)])), (b, .inr (0, [.int (iI ((w : Nat) : Int)), .int (iI ((h : Nat) : Int)), .ref ak, .ref ah])), (ak, .inl (cI, 100, .inl (aI K))), (ah, .inl (cI, 100, .inl (aI B))), (b2, .inr (0, [.int (iI ((w2 : Nat) : Int)), .int (iI ((h2 : Nat) : Int)), .ref ak2, .ref ah2])), (ak2, .inl (cI, 100, .inl (aI K2))), (ah2, .inl (cI, 100, .inl (aI B2))), (wo, .inr (3, [.ref fa, .ref xa, .ref ya])), (fa, .inl (cI, 100, .inl (aI F))), (xa, .inl (cI, 100, .inl (aI QX))), (ya, .inl (cI, 100, .inl (aI QY))), (lo, .inr (1, [.int (iI ((n : Nat) : Int)), .ref lca, .ref lra, .ref lia, .ref lta])), (lca, .inl (cI, 5, .inl (aI LX))), (lra, .inl (cI, 5, .inl (aI LY))), (lia, .inl (cI, 5, .inl (aI LL))), (lta, .inl (cI, 5, .inl (aI LA))), (po, .inr (2, [.ref pw])), (pw, .inl (cJ, 364, .inr (.inl PW))), (ou, .inl (cJ, 1, .inr (.inl OU))), (mo, .inr (5, [.int (iI th), .int (iI ((w : Nat) : Int)), .int (iI ((h : Nat) : Int)), .int (iI ((sg : Nat) : Int)), .int (iI hz), .int (iI ((n : Nat) : Int)), .ref mna, .ref mkp, .ref mot, .ref mlr, .ref mlk, .ref mwe, .ref mmk, .ref mln])), (mna, .inl (cI, 144, .inl (aI N))), (mkp, .inl (cI, 144, .inl (aI KP))), (mot, .inl (cI, 144, .inl (aI OT))), (mlr, .inl (cI, 20, .inl (aI LR))), (mlk, .inl (cI, 20, .inl (aI LK))), (mwe, .inl (cI, 13104, .inl (aI WE))), (mmk, .inl (cI, 144, .inl (aI MK))), (mln, .inl (cI, 144, .inl (aI LN)))] H ∧ va_D A [(so, .inr (4, [.ref b, .ref b2, .ref wo, .ref lo, .ref po, .int (iI ((sg : Nat) : Int)), .long (lI hz)])), (b, .inr (0, [.int (iI ((w : Nat) : Int)), .int (iI ((h : Nat) : Int)), .ref ak, .ref ah])), (ak, .inl (cI, 100, .inl (aI K))), (ah, .inl (cI, 100, .inl (aI B))), (b2, .inr (0, [.int (iI ((w2 : Nat) : Int)), .int (iI ((h2 : Nat) : Int)), .ref ak2, .ref ah2])), (ak2, .inl (cI, 100, .inl (aI K2))), (ah2, .inl (cI, 100, .inl (aI B2))), (wo, .inr (3, [.ref fa, .ref xa, .ref ya])), (fa, .inl (cI, 100, .inl (aI F))), (xa, .inl (cI, 100, .inl (aI QX))), (ya, .inl (cI, 100, .inl (aI QY))), (lo, .inr (1, [.int (iI ((n : Nat) : Int)), .ref lca, .ref lra, .ref lia, .ref lta])), (lca, .inl (cI, 5, .inl (aI LX))), (lra, .inl (cI, 5, .inl (aI LY))), (lia, .inl (cI, 5, .inl (aI LL))), (lta, .inl (cI, 5, .inl (aI LA))), (po, .inr (2, [.ref pw])), (pw, .inl (cJ, 364, .inr (.inl PW))), (ou, .inl (cJ, 1, .inr (.inl OU))), (mo, .inr (5, [.int (iI th), .int (iI ((w : Nat) : Int)), .int (iI ((h : Nat) : Int)), .int (iI ((sg : Nat) : Int)), .int (iI hz), .int (iI ((n : Nat) : Int)), .ref mna, .ref mkp, .ref mot, .ref mlr, .ref mlk, .ref mwe, .ref mmk, .ref mln])), (mna, .inl (cI, 144, .inl (aI N))), (mkp, .inl (cI, 144, .inl (aI KP))), (mot, .inl (cI, 144, .inl (aI OT))), (mlr, .inl (cI, 20, .inl (aI LR))), (mlk, .inl (cI, 20, .inl (aI LK))), (mwe, .inl (cI, 13104, .inl (aI WE))), (mmk, .inl (cI, 144, .inl (aI MK))), (mln, .inl (cI, 144, .inl (aI LN)))] ∧ (3 ≤ w ∧ w ≤ 10) ∧ (3 ≤ h ∧ h ≤ 10) ∧ okK K ∧ tlK w h K ∧ n ≤ 5 ∧ (∀ i, i < n → inB w h (LX i) (LY i)) ∧ isM (vK w h K) N ∧ isL n LX LY LL LA LR ∧ sg ≤ 100 * t ∧ (0 ≤ hz ∧ hz ≤ 10000 * ((t : Nat) : Int))
theorem inR_0 : inR 0 := ⟨by decide, by decide⟩
theorem inR_1 : inR 1 := ⟨by decide, by decide⟩
theorem inR_2 : inR 2 := ⟨by decide, by decide⟩
theorem cdSide_r (x y : Int) : inR (cdSide x y) := by
  unfold cdSide
  (repeat' split) <;> first | exact inR_0 | exact inR_1 | exact inR_2
theorem cdSet_r (w h : Nat) (x y v : Int) : inR (cdSet w h x y v) := by
  unfold cdSet
  (repeat' split) <;> first | exact inR_0 | exact inR_1 | exact inR_2
theorem cdLine_r (w h : Nat) (x y tx ty : Int) : inR (cdLine w h x y tx ty) := by
  unfold cdLine
  (repeat' split) <;> first | exact inR_0 | exact inR_1 | exact inR_2
theorem cdRing_r (w h : Nat) (x y a b : Int) : inR (cdRing w h x y a b) := by
  unfold cdRing
  (repeat' split) <;> first | exact inR_0 | exact inR_1 | exact inR_2
theorem cdStamp_r (w h : Nat) (st tn x y : Int) : inR (cdStamp w h st tn x y) := by
  unfold cdStamp
  (repeat' split) <;> first | exact inR_0 | exact inR_1 | exact inR_2
theorem cdSpark_r (w h : Nat) (g : Int → Int → Int) (x y d : Int) : inR (cdSpark w h g x y d) := by
  unfold cdSpark
  (repeat' split) <;> first | exact inR_0 | exact inR_1 | exact inR_2
theorem cdLamp_r (w h n : Nat) (x y : Int) : inR (cdLamp w h n x y) := by
  unfold cdLamp
  (repeat' split) <;> first | exact inR_0 | exact inR_1 | exact inR_2
theorem cdPass_r (k : Int) : inR (cdPass k) := by
  unfold cdPass
  (repeat' split) <;> first | exact inR_0 | exact inR_1 | exact inR_2
theorem cdTold_r (w h : Nat) (x y k : Int) : inR (cdTold w h x y k) := by
  unfold cdTold
  (repeat' split) <;> first | exact inR_0 | exact inR_1 | exact inR_2
theorem cdAbout_r (n : Nat) (i k : Int) : inR (cdAbout n i k) := by
  unfold cdAbout
  (repeat' split) <;> first | exact inR_0 | exact inR_1 | exact inR_2
theorem cdCount_r (k : Int) : inR (cdCount k) := by
  unfold cdCount
  (repeat' split) <;> first | exact inR_0 | exact inR_1 | exact inR_2
theorem cdWay_r (w h : Nat) (x y tx ty : Int) : inR (cdWay w h x y tx ty) := by
  unfold cdWay
  (repeat' split) <;> first | exact inR_0 | exact inR_1 | exact inR_2
theorem cdPeriod_r (k : Int) : inR (cdPeriod k) := by
  unfold cdPeriod
  (repeat' split) <;> first | exact inR_0 | exact inR_1 | exact inR_2
theorem cdUntil_r (w h : Nat) (x y : Int) : inR (cdUntil w h x y) := by
  unfold cdUntil
  (repeat' split) <;> first | exact inR_0 | exact inR_1 | exact inR_2
theorem cdFore_r (s k : Int) : inR (cdFore s k) := by
  unfold cdFore
  (repeat' split) <;> first | exact inR_0 | exact inR_1 | exact inR_2
theorem cdAdv_r (s : Int) : inR (cdAdv s) := by
  unfold cdAdv
  (repeat' split) <;> first | exact inR_0 | exact inR_1 | exact inR_2
theorem zero_K {w h : Nat} {K : Nat → Int} (x y : Int) : vK w h (fillZ K 0 100) x y = 0 := by
  unfold vK kindZ
  split
  · exact fillZ_in (by omega)
  · rfl
theorem zero_M {w h : Nat} {K N : Nat → Int} : isM (vK w h (fillZ K 0 100)) (fillZ N 0 144) := by
  intro x y hx hy
  have r := atZ_rng hx hy
  rw [zero_K, fillZ_in (by omega)]
theorem zero_ok {K : Nat → Int} : okK (fillZ K 0 100) := by
  intro k hk
  rw [fillZ_in hk]
  exact ⟨by decide, by decide⟩
theorem zero_tl {w h : Nat} {K : Nat → Int} : tlK w h (fillZ K 0 100) := fun _ _ h2 => fillZ_in h2
theorem cdSide_0 {x y : Int} (h : cdSide x y = 0) : 3 ≤ x ∧ x ≤ 10 ∧ 3 ≤ y ∧ y ≤ 10 := Decidable.byContradiction fun q => by
  unfold cdSide at h
  rw [if_neg q] at h
  exact absurd h (by decide)
theorem cdPass_0 {k : Int} (h : cdPass k = 0) : 1 ≤ k ∧ k ≤ 100 := Decidable.byContradiction fun q => by
  unfold cdPass at h
  rw [if_neg q] at h
  exact absurd h (by decide)
theorem cdLamp_0 {w h n : Nat} {x y : Int} (e : cdLamp w h n x y = 0) : inB w h x y ∧ n < 5 := by
  unfold cdLamp at e
  by_cases q : inB w h x y
  · rw [if_pos q] at e
    refine ⟨q, Decidable.byContradiction fun z => ?_⟩
    rw [if_neg z] at e
    exact absurd e (by decide)
  · rw [if_neg q] at e
    exact absurd e (by decide)
theorem lamp_in {w h n : Nat} {LX LY : Nat → Int} {x y : Int} (hb : ∀ i, i < n → inB w h (LX i) (LY i)) (hi : inB w h x y) : ∀ i, i < n + 1 → inB w h (upZ LX n x i) (upZ LY n y i) := by
  intro i h1
  by_cases q : i = n
  · rw [q, upZ_s, upZ_s]
    exact hi
  · rw [upZ_n q, upZ_n q]
    exact hb i (by omega)
theorem passG_hz {w h n : Nat} {LX LY : Nat → Int} {p : Ps} (hs : w * h ≤ 100) : ∀ i : Nat, p.2.2.2.2 ≤ (passG w h n LX LY p i).2.2.2.2 ∧ (passG w h n LX LY p i).2.2.2.2 ≤ p.2.2.2.2 + 100 * (i : Int)
  | 0 => ⟨Int.le_refl _, by show p.2.2.2.2 ≤ _; omega⟩
  | i + 1 => by
    have ih := passG_hz (w := w) (h := h) (n := n) (LX := LX) (LY := LY) (p := p) hs i
    have hc := cntG_le w h (stepG (passG w h n LX LY p i).1) 2
    show p.2.2.2.2 ≤ (passG w h n LX LY p i).2.2.2.2 + (cntG w h (stepG (passG w h n LX LY p i).1) 2 : Nat) ∧ (passG w h n LX LY p i).2.2.2.2 + (cntG w h (stepG (passG w h n LX LY p i).1) 2 : Nat) ≤ _
    omega
