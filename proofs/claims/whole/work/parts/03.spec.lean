/-- a cell's number by column and row, -1 beyond the edge -/
def cellZ (w h : Nat) (x y : Int) : Int := if 0 ≤ x ∧ x < w ∧ 0 ≤ y ∧ y < h then w * y + x else -1
theorem cellZ_in {w h : Nat} {x y : Int} (hx : 0 ≤ x) (hx2 : x < w) (hy : 0 ≤ y) (hy2 : y < h) : cellZ w h x y = w * y + x := if_pos ⟨hx, hx2, hy, hy2⟩
theorem cellZ_out {w h : Nat} {x y : Int} (h0 : x < 0 ∨ (w : Int) ≤ x ∨ y < 0 ∨ (h : Int) ≤ y) : cellZ w h x y = -1 := if_neg (by omega)
theorem idx_lt {w h : Nat} {x y : Int} (hx : 0 ≤ x) (hx2 : x < w) (hy : 0 ≤ y) (hy2 : y < h) : 0 ≤ (w : Int) * y + x ∧ (w : Int) * y + x < (w * h : Nat) := by
  obtain ⟨a, rfl⟩ := Int.eq_ofNat_of_zero_le hx
  obtain ⟨b, rfl⟩ := Int.eq_ofNat_of_zero_le hy
  have h1 : w * b + a < w * (b + 1) := by rw [Nat.mul_succ]; omega
  have h2 : w * (b + 1) ≤ w * h := Nat.mul_le_mul_left w (by omega)
  have h3 : ((w * b + a : Nat) : Int) = (w : Int) * b + a := by rw [Int.natCast_add, Int.natCast_mul]
  omega
theorem size_le {w h : Nat} (hw : 3 ≤ w ∧ w ≤ 10) (hh : 3 ≤ h ∧ h ≤ 10) : 9 ≤ w * h ∧ w * h ≤ 100 := ⟨Nat.mul_le_mul hw.1 hh.1, Nat.mul_le_mul hw.2 hh.2⟩
theorem cellZ_rng (w h : Nat) (x y : Int) : -1 ≤ cellZ w h x y ∧ cellZ w h x y < (w * h : Nat) := by
  rw [cellZ]
  split
  · rename_i q
    have h1 := idx_lt q.1 q.2.1 q.2.2.1 q.2.2.2
    omega
  · omega
theorem cellZ_100 {w h : Nat} (hw : 3 ≤ w ∧ w ≤ 10) (hh : 3 ≤ h ∧ h ≤ 10) (x y : Int) : -1 ≤ cellZ w h x y ∧ cellZ w h x y < 100 := by
  have h1 := cellZ_rng w h x y
  have h2 := size_le hw hh
  omega
/-- what the cell with a number holds, 0 where there is no such number -/
def kindZ (K : Nat → Int) (c : Int) : Int := if 0 ≤ c ∧ c < 100 then K c.toNat else 0
theorem kindZ_in {K : Nat → Int} {c : Int} (h1 : 0 ≤ c) (h2 : c < 100) : kindZ K c = K c.toNat := if_pos ⟨h1, h2⟩
theorem kindZ_out {K : Nat → Int} {c : Int} (h : c < 0 ∨ 100 ≤ c) : kindZ K c = 0 := if_neg (by omega)
def okK (K : Nat → Int) : Prop := ∀ k, k < 100 → 0 ≤ K k ∧ K k ≤ 3
theorem kindZ_rng {K : Nat → Int} (h : okK K) (c : Int) : 0 ≤ kindZ K c ∧ kindZ K c ≤ 3 := by
  rw [kindZ]
  split
  · exact h _ (by omega)
  · omega
/-- what is told of a column and a row -/
def vK (w h : Nat) (K : Nat → Int) (x y : Int) : Int := kindZ K (cellZ w h x y)
theorem vK_rng {K : Nat → Int} (h : okK K) (w h' : Nat) (x y : Int) : 0 ≤ vK w h' K x y ∧ vK w h' K x y ≤ 3 := kindZ_rng h _
/-- how many of the first n are v, are not v -/
def cntI (f : Nat → Int) (v : Int) : Nat → Nat
  | 0 => 0
  | n + 1 => cntI f v n + if f n = v then 1 else 0
theorem cntI_s (f : Nat → Int) (v : Int) (n : Nat) : cntI f v (n + 1) = cntI f v n + if f n = v then 1 else 0 := rfl
theorem cntI_le (f : Nat → Int) (v : Int) : ∀ n, cntI f v n ≤ n
  | 0 => Nat.le_refl 0
  | n + 1 => by
    have := cntI_le f v n
    rw [cntI_s]
    split <;> omega
theorem cntI_cong {f f' : Nat → Int} {v : Int} : ∀ {n : Nat}, (∀ k, k < n → (f k = v ↔ f' k = v)) → cntI f v n = cntI f' v n
  | 0, _ => rfl
  | n + 1, h => by
    rw [cntI_s, cntI_s, cntI_cong (fun k hk => h k (by omega))]
    have := h n (by omega)
    by_cases q : f n = v
    · rw [if_pos q, if_pos (this.mp q)]
    · rw [if_neg q, if_neg (fun z => q (this.mpr z))]
/-- the cell's neighbours that are of a kind, that are not -/
def arK (w h : Nat) (K : Nat → Int) (x y kd : Int) : Nat := cntI (fun d => vK w h K (x + dX d) (y + dY d)) kd 8
theorem dX_rng (d : Nat) : -1 ≤ dX d ∧ dX d ≤ 1 := by
  unfold dX
  split <;> omega
theorem dY_rng (d : Nat) : -1 ≤ dY d ∧ dY d ≤ 1 := by
  unfold dY
  split <;> omega
def nextZ (kd heads : Int) : Int := if kd = 2 then 3 else if kd = 3 then 1 else if kd = 1 then (if heads = 1 ∨ heads = 2 then 2 else 1) else 0
theorem nextZ_rng (kd heads : Int) : 0 ≤ nextZ kd heads ∧ nextZ kd heads ≤ 3 := by
  unfold nextZ
  split
  · omega
  · split
    · omega
    · split
      · split <;> omega
      · omega
theorem nextZ_c1 {hd : Int} (h : hd = 1 ∨ hd = 2) : nextZ 1 hd = 2 := by rw [nextZ, if_neg (by decide), if_neg (by decide), if_pos rfl, if_pos h]
theorem nextZ_c0 {hd : Int} (h : hd ≠ 1 ∧ hd ≠ 2) : nextZ 1 hd = 1 := by rw [nextZ, if_neg (by decide), if_neg (by decide), if_pos rfl, if_neg (by omega)]
def holdsZ (w h : Nat) (x y w0 h0 : Int) : Int := if 0 ≤ x ∧ x < w ∧ 0 ≤ y ∧ y < h ∧ w0 ≤ w - x ∧ h0 ≤ h - y then 1 else 0
theorem cntI_t {f : Nat → Int} {v : Int} {n : Nat} (h : f n = v) : cntI f v (n + 1) = cntI f v n + 1 := by rw [cntI_s, if_pos h]
theorem cntI_f {f : Nat → Int} {v : Int} {n : Nat} (h : f n ≠ v) : cntI f v (n + 1) = cntI f v n := by rw [cntI_s, if_neg h, Nat.add_zero]
/-- how many of the first n are not v -/
def cntN (f : Nat → Int) (v : Int) : Nat → Nat
  | 0 => 0
  | n + 1 => cntN f v n + if f n = v then 0 else 1
theorem cntN_s (f : Nat → Int) (v : Int) (n : Nat) : cntN f v (n + 1) = cntN f v n + if f n = v then 0 else 1 := rfl
theorem cntN_t {f : Nat → Int} {v : Int} {n : Nat} (h : f n = v) : cntN f v (n + 1) = cntN f v n := by rw [cntN_s, if_pos h, Nat.add_zero]
theorem cntN_f {f : Nat → Int} {v : Int} {n : Nat} (h : f n ≠ v) : cntN f v (n + 1) = cntN f v n + 1 := by rw [cntN_s, if_neg h]
theorem cntN_eq (f : Nat → Int) (v : Int) : ∀ n, cntN f v n + cntI f v n = n
  | 0 => rfl
  | n + 1 => by
    have := cntN_eq f v n
    rw [cntN_s, cntI_s]
    split <;> omega
def wiK (w h : Nat) (K : Nat → Int) (x y : Int) : Nat := cntN (fun d => vK w h K (x + dX d) (y + dY d)) 0 8
/-- into which of a cell's first n directions a cell lies -/
def nbN (w h : Nat) (x y : Int) (c n : Nat) : Nat := cntI (fun d => cellZ w h (x + dX d) (y + dY d)) (c : Int) n
theorem tell_out {w h i : Nat} {x y : Int} {B B1 : Nat → Int} (hB : ∀ c, c < 100 → B1 c = B c + (nbN w h x y c i : Nat)) (e : cellZ w h (x + dX i) (y + dY i) = -1) : ∀ c, c < 100 → B1 c = B c + (nbN w h x y c (i + 1) : Nat) := by
  intro c hc
  rw [nbN, cntI_f (by show cellZ w h (x + dX i) (y + dY i) ≠ (c : Int); omega)]
  exact hB c hc
theorem tell_in {w h i : Nat} {x y : Int} {B B1 : Nat → Int} (hB : ∀ c, c < 100 → B1 c = B c + (nbN w h x y c i : Nat)) (h0 : 0 ≤ cellZ w h (x + dX i) (y + dY i)) : ∀ c, c < 100 → upZ B1 (cellZ w h (x + dX i) (y + dY i)).toNat (B1 (cellZ w h (x + dX i) (y + dY i)).toNat + 1) c = B c + (nbN w h x y c (i + 1) : Nat) := by
  intro c hc
  have h2 := hB c hc
  rw [nbN] at h2
  by_cases q : c = (cellZ w h (x + dX i) (y + dY i)).toNat
  · rw [nbN, cntI_t (by show cellZ w h (x + dX i) (y + dY i) = (c : Int); omega)]
    subst q
    rw [upZ_s, h2]
    omega
  · rw [nbN, cntI_f (by show cellZ w h (x + dX i) (y + dY i) ≠ (c : Int); omega), upZ_n q]
    exact h2
/-- how many heads among the first n cells have a cell for their neighbour -/
def besZ (w h : Nat) (K : Nat → Int) (c : Nat) : Nat → Nat
  | 0 => 0
  | n + 1 => besZ w h K c n + if K n = 2 then nbN w h ((n % w : Nat) : Int) ((n / w : Nat) : Int) c 8 else 0
theorem bes_s (w h : Nat) (K : Nat → Int) (c n : Nat) : besZ w h K c (n + 1) = besZ w h K c n + if K n = 2 then nbN w h ((n % w : Nat) : Int) ((n / w : Nat) : Int) c 8 else 0 := rfl
theorem mod_xy {w i j : Nat} (h : i < w) : (w * j + i) % w = i ∧ (w * j + i) / w = j := by
  have hw : 0 < w := by omega
  constructor
  · rw [Nat.mul_add_mod, Nat.mod_eq_of_lt h]
  · rw [Nat.mul_add_div hw, Nat.div_eq_of_lt h]
    rfl
theorem bes_t {w h i j : Nat} {K B2 B3 : Nat → Int} (hi : i < w) (hB : ∀ c, c < 100 → B2 c = (besZ w h K c (w * j + i) : Nat)) (hk : K (w * j + i) = 2) (h3 : ∀ c, c < 100 → B3 c = B2 c + (nbN w h (i : Int) (j : Int) c 8 : Nat)) : ∀ c, c < 100 → B3 c = (besZ w h K c (w * j + (i + 1)) : Nat) := by
  intro c hc
  rw [h3 c hc, hB c hc, show w * j + (i + 1) = w * j + i + 1 from rfl, bes_s, if_pos hk, (mod_xy hi).1, (mod_xy hi).2]
  omega
theorem bes_f {w h i j : Nat} {K B2 : Nat → Int} (hB : ∀ c, c < 100 → B2 c = (besZ w h K c (w * j + i) : Nat)) (hk : K (w * j + i) ≠ 2) : ∀ c, c < 100 → B2 c = (besZ w h K c (w * j + (i + 1)) : Nat) := by
  intro c hc
  rw [hB c hc, show w * j + (i + 1) = w * j + i + 1 from rfl, bes_s, if_neg hk]
  rfl
/-- what the cells are behind a step, the first i of them -/
def stepI (w h : Nat) (K : Nat → Int) (i : Nat) : Nat → Int := fun k => if k < i then nextZ (K k) (arK w h K ((k % w : Nat) : Int) ((k / w : Nat) : Int) 2) else K k
def stepK (w h : Nat) (K : Nat → Int) : Nat → Int := stepI w h K (w * h)
theorem stepI_0 (w h : Nat) (K : Nat → Int) : stepI w h K 0 = K := by
  funext k
  exact if_neg (Nat.not_lt_zero k)
theorem stepI_at (w h : Nat) (K : Nat → Int) (i : Nat) : stepI w h K i i = K i := if_neg (Nat.lt_irrefl i)
theorem stepI_s {w h i : Nat} {K : Nat → Int} {b : Int} (hb : b = (arK w h K ((i % w : Nat) : Int) ((i / w : Nat) : Int) 2 : Nat)) : upZ (stepI w h K i) i (nextZ (stepI w h K i i) b) = stepI w h K (i + 1) := by
  funext k
  rw [stepI_at, hb]
  by_cases q : k = i
  · subst q
    rw [upZ_s]
    exact (if_pos (Nat.lt_succ_self k)).symm
  · rw [upZ_n q]
    by_cases q2 : k < i
    · exact (if_pos q2).trans (if_pos (by omega)).symm
    · exact (if_neg q2).trans (if_neg (by omega)).symm
theorem stepI_ok {w h : Nat} {K : Nat → Int} (hK : okK K) (i : Nat) : okK (stepI w h K i) := by
  intro k hk
  unfold stepI
  split
  · exact nextZ_rng _ _
  · exact hK k hk
