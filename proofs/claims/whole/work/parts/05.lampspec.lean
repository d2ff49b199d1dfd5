/-- the first n added -/
def sumZ (f : Nat → Int) : Nat → Int
  | 0 => 0
  | n + 1 => sumZ f n + f n
theorem sumZ_s (f : Nat → Int) (n : Nat) : sumZ f (n + 1) = sumZ f n + f n := rfl
/-- what lamps see -/
def seeK (w h : Nat) (K LX LY : Nat → Int) : Nat → Int := fun k => vK w h K (LX k) (LY k)
/-- the times that they were lit, the latest of these, the first i of them looked at -/
def litI (v L : Nat → Int) (i : Nat) : Nat → Int := fun k => if k < i ∧ v k = 2 then L k + 1 else L k
def latI (v L : Nat → Int) (s : Int) (i : Nat) : Nat → Int := fun k => if k < i ∧ v k = 2 then s else L k
theorem litI_0 (v L : Nat → Int) : litI v L 0 = L := by
  funext k
  exact if_neg (fun h => Nat.not_lt_zero k h.1)
theorem latI_0 (v L : Nat → Int) (s : Int) : latI v L s 0 = L := by
  funext k
  exact if_neg (fun h => Nat.not_lt_zero k h.1)
theorem litI_at (v L : Nat → Int) (i : Nat) : litI v L i i = L i := if_neg (fun h => Nat.lt_irrefl i h.1)
theorem litI_t {v L : Nat → Int} {i : Nat} (h : v i = 2) : upZ (litI v L i) i (litI v L i i + 1) = litI v L (i + 1) := by
  funext k
  rw [litI_at]
  by_cases q : k = i
  · subst q
    rw [upZ_s]
    exact (if_pos ⟨Nat.lt_succ_self k, h⟩).symm
  · rw [upZ_n q]
    by_cases z : k < i ∧ v k = 2
    · exact (if_pos z).trans (if_pos ⟨by omega, z.2⟩).symm
    · exact (if_neg z).trans (if_neg (fun y => z ⟨by omega, y.2⟩)).symm
theorem litI_f {v L : Nat → Int} {i : Nat} (h : v i ≠ 2) : litI v L i = litI v L (i + 1) := by
  funext k
  by_cases z : k < i ∧ v k = 2
  · exact (if_pos z).trans (if_pos ⟨by omega, z.2⟩).symm
  · refine (if_neg z).trans (if_neg (fun y => z ⟨?_, y.2⟩)).symm
    have : k ≠ i := fun e => h (e ▸ y.2)
    omega
theorem latI_t {v L : Nat → Int} {s : Int} {i : Nat} (h : v i = 2) : upZ (latI v L s i) i s = latI v L s (i + 1) := by
  funext k
  by_cases q : k = i
  · subst q
    rw [upZ_s]
    exact (if_pos ⟨Nat.lt_succ_self k, h⟩).symm
  · rw [upZ_n q]
    by_cases z : k < i ∧ v k = 2
    · exact (if_pos z).trans (if_pos ⟨by omega, z.2⟩).symm
    · exact (if_neg z).trans (if_neg (fun y => z ⟨by omega, y.2⟩)).symm
theorem latI_f {v L : Nat → Int} {s : Int} {i : Nat} (h : v i ≠ 2) : latI v L s i = latI v L s (i + 1) := by
  funext k
  by_cases z : k < i ∧ v k = 2
  · exact (if_pos z).trans (if_pos ⟨by omega, z.2⟩).symm
  · refine (if_neg z).trans (if_neg (fun y => z ⟨?_, y.2⟩)).symm
    have : k ≠ i := fun e => h (e ▸ y.2)
    omega
/-- cells packed into a word -/
def pkZ (K : Nat → Int) (f : Nat) : Nat → Int64
  | 0 => 0
  | n + 1 => (pkZ K f n <<< ((iI 2).toInt64 &&& 63)) ||| (iI (K (f + n))).toInt64
theorem pkZ_s (K : Nat → Int) (f n : Nat) : pkZ K f (n + 1) = (pkZ K f n <<< ((iI 2).toInt64 &&& 63)) ||| (iI (K (f + n))).toInt64 := rfl
def keepI (K : Nat → Int) (W : Nat → Int64) (s : Nat) : Nat → Nat → Int64
  | 0 => W
  | n + 1 => vp_updL (keepI K W s n) (s * 4 + n) (pkZ K (n * 25) 25)
/-- two boards kept alike -/
def sameW (W : Nat → Int64) (s o : Nat) : Prop := ∀ j, j < 4 → W (s * 4 + j) = W (o * 4 + j)
theorem sameW_or (W : Nat → Int64) (s o : Nat) : sameW W s o ∨ ¬ sameW W s o := Classical.em _
noncomputable def sameB (W : Nat → Int64) (s o : Nat) : Int := @ite _ (sameW W s o) (Classical.propDecidable _) 1 0
theorem sameB_t {W : Nat → Int64} {s o : Nat} (h : sameW W s o) : sameB W s o = 1 := if_pos h
theorem sameB_f {W : Nat → Int64} {s o : Nat} (h : ¬ sameW W s o) : sameB W s o = 0 := if_neg h
theorem sameB_rng (W : Nat → Int64) (s o : Nat) : sameB W s o = 0 ∨ sameB W s o = 1 := (sameW_or W s o).elim (fun h => Or.inr (sameB_t h)) (fun h => Or.inl (sameB_f h))
