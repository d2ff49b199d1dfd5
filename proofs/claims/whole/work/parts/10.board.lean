/-- has a row of 100 a place for it -/
def placeZ (c : Int) : Int := if 0 ≤ c ∧ c < 100 then 1 else 0
theorem placeZ_rng (c : Int) : 0 ≤ placeZ c ∧ placeZ c ≤ 1 := by
  unfold placeZ
  split <;> omega
theorem placeZ_0 {c : Int} (h : placeZ c = 0) : c < 0 ∨ 100 ≤ c := by
  by_cases q : 0 ≤ c ∧ c < 100
  · rw [placeZ, if_pos q] at h
    exact absurd h (by decide)
  · omega
theorem placeZ_1 {c : Int} (h : placeZ c ≠ 0) : 0 ≤ c ∧ c < 100 := Decidable.byContradiction fun q => h (if_neg q)
theorem bes_le (w h : Nat) (K : Nat → Int) (c : Nat) : ∀ n, besZ w h K c n ≤ n * 8
  | 0 => Nat.le_refl 0
  | n + 1 => by
    have h1 := bes_le w h K c n
    have h2 : nbN w h ((n % w : Nat) : Int) ((n / w : Nat) : Int) c 8 ≤ 8 := cntI_le _ _ 8
    rw [bes_s]
    split <;> omega
/-- what a row of 100 is behind a step, its first i places: behind the board's last cell all is empty -/
def stepJ (w h : Nat) (K : Nat → Int) (i : Nat) : Nat → Int := stepI w h K (min i (w * h))
theorem stepJ_0 (w h : Nat) (K : Nat → Int) : stepJ w h K 0 = K := by
  show stepI w h K (min 0 (w * h)) = K
  rw [Nat.zero_min]
  exact stepI_0 w h K
theorem stepJ_ok {w h : Nat} {K : Nat → Int} (hK : okK K) (i : Nat) : okK (stepJ w h K i) := stepI_ok hK _
theorem stepJ_s {w h i : Nat} {K : Nat → Int} {b : Int} (ht : tlK w h K) (hi : i < 100) (hb : i < w * h → b = (arK w h K ((i % w : Nat) : Int) ((i / w : Nat) : Int) 2 : Nat)) : upZ (stepJ w h K i) i (nextZ (stepJ w h K i i) b) = stepJ w h K (i + 1) := by
  show upZ (stepI w h K (min i (w * h))) i (nextZ (stepI w h K (min i (w * h)) i) b) = stepI w h K (min (i + 1) (w * h))
  by_cases q : i < w * h
  · rw [Nat.min_eq_left (show i ≤ w * h by omega), Nat.min_eq_left (show i + 1 ≤ w * h by omega)]
    exact stepI_s (hb q)
  · rw [Nat.min_eq_right (show w * h ≤ i by omega), Nat.min_eq_right (show w * h ≤ i + 1 by omega)]
    have e3 : stepI w h K (w * h) i = 0 := (if_neg q).trans (ht i (by omega) hi)
    rw [e3]
    funext k
    by_cases z : k = i
    · subst z
      rw [upZ_s, e3]
      rfl
    · rw [upZ_n z]
theorem stepJ_end {w h : Nat} {K : Nat → Int} (hs : w * h ≤ 100) : stepJ w h K 100 = stepK w h K := by
  show stepI w h K (min 100 (w * h)) = stepI w h K (w * h)
  rw [Nat.min_eq_right hs]
set_option maxHeartbeats 4000000 in
set_option maxRecDepth 100000 in
theorem mX0_columns (l : Launch) (D : va_G) (cI cJ : ClassId) (Z : Nat → Nat) (sz : Nat) (b : Nat) (ak : Nat) (ah : Nat) (w : Nat) (h : Nat) (K : Nat → Int) (B : Nat → Int) (hww : 3 ≤ w ∧ w ≤ 10) (hhh : 3 ≤ h ∧ h ≤ 10) : Met l yX0_columns wsX0_columns (rmk 0 0 0 0) (va_Pc [.ref b] (preW D [(cI, .int), (cJ, .long)] Z [(b, .inr (0, [.int (iI ((w : Nat) : Int)), .int (iI ((h : Nat) : Int)), .ref ak, .ref ah])), (ak, .inl (cI, 100, .inl (aI K))), (ah, .inl (cI, 100, .inl (aI B)))] sz)) (va_Qi (fun (r : Int32) (u : Unit) => r = iI ((w : Nat) : Int)) (fun (u : Unit) t => aftW D [(cI, .int), (cJ, .long)] [(b, .inr (0, [.int (iI ((w : Nat) : Int)), .int (iI ((h : Nat) : Int)), .ref ak, .ref ah])), (ak, .inl (cI, 100, .inl (aI K))), (ah, .inl (cI, 100, .inl (aI B)))] (va_A [(b, .inr (0, [.int (iI ((w : Nat) : Int)), .int (iI ((h : Nat) : Int)), .ref ak, .ref ah])), (ak, .inl (cI, 100, .inl (aI K))), (ah, .inl (cI, 100, .inl (aI B)))] sz) t) (va_A [(b, .inr (0, [.int (iI ((w : Nat) : Int)), .int (iI ((h : Nat) : Int)), .ref ak, .ref ah])), (ak, .inl (cI, 100, .inl (aI K))), (ah, .inl (cI, 100, .inl (aI B)))] sz)) 0 0 (va_A [(b, .inr (0, [.int (iI ((w : Nat) : Int)), .int (iI ((h : Nat) : Int)), .ref ak, .ref ah])), (ak, .inl (cI, 100, .inl (aI K))), (ah, .inl (cI, 100, .inl (aI B)))] sz) := by
  refine m_of (cc := cX0_columns) (maxL := 1) (ret := (some .int)) (Qc := fun A => va_Qi (fun (r : Int32) (u : Unit) => r = iI ((w : Nat) : Int)) (fun (u : Unit) t => aftW D [(cI, .int), (cJ, .long)] [(b, .inr (0, [.int (iI ((w : Nat) : Int)), .int (iI ((h : Nat) : Int)), .ref ak, .ref ah])), (ak, .inl (cI, 100, .inl (aI K))), (ah, .inl (cI, 100, .inl (aI B)))] A t) A) RX0 [(0, .ref b)] (by decide) rfl rfl (Nat.le_of_ble_eq_true rfl) rfl (fun p e s m below meth c A ls Q S hr hlk hnm hAe hsz hP hK hD hA hZ hS hl hQ => ?_)
  have hi0 : ∀ w ∈ u_ws RX0 TX0 4, w ∈ wsX0_columns := by decide +kernel
  refine lv_aload_n S.1 S.2.1 dX0_columns_0 rfl (lv_at hl 0 rfl) ?_
  refine r_get S hi0 hK hP 0 rfl rfl 0 (by decide) (by decide +kernel) rfl rfl dX0_columns_1 ?_
  subst hQ
  exact e_iret S hr hlk hS (Nat.le_of_ble_eq_true rfl) (Nat.le_of_ble_eq_true rfl) (u := ()) (rfl) (aft_of hK hP hD) dX0_columns_4
set_option maxHeartbeats 4000000 in
set_option maxRecDepth 100000 in
theorem mX0_rows (l : Launch) (D : va_G) (cI cJ : ClassId) (Z : Nat → Nat) (sz : Nat) (b : Nat) (ak : Nat) (ah : Nat) (w : Nat) (h : Nat) (K : Nat → Int) (B : Nat → Int) (hww : 3 ≤ w ∧ w ≤ 10) (hhh : 3 ≤ h ∧ h ≤ 10) : Met l yX0_rows wsX0_rows (rmk 0 0 0 0) (va_Pc [.ref b] (preW D [(cI, .int), (cJ, .long)] Z [(b, .inr (0, [.int (iI ((w : Nat) : Int)), .int (iI ((h : Nat) : Int)), .ref ak, .ref ah])), (ak, .inl (cI, 100, .inl (aI K))), (ah, .inl (cI, 100, .inl (aI B)))] sz)) (va_Qi (fun (r : Int32) (u : Unit) => r = iI ((h : Nat) : Int)) (fun (u : Unit) t => aftW D [(cI, .int), (cJ, .long)] [(b, .inr (0, [.int (iI ((w : Nat) : Int)), .int (iI ((h : Nat) : Int)), .ref ak, .ref ah])), (ak, .inl (cI, 100, .inl (aI K))), (ah, .inl (cI, 100, .inl (aI B)))] (va_A [(b, .inr (0, [.int (iI ((w : Nat) : Int)), .int (iI ((h : Nat) : Int)), .ref ak, .ref ah])), (ak, .inl (cI, 100, .inl (aI K))), (ah, .inl (cI, 100, .inl (aI B)))] sz) t) (va_A [(b, .inr (0, [.int (iI ((w : Nat) : Int)), .int (iI ((h : Nat) : Int)), .ref ak, .ref ah])), (ak, .inl (cI, 100, .inl (aI K))), (ah, .inl (cI, 100, .inl (aI B)))] sz)) 0 0 (va_A [(b, .inr (0, [.int (iI ((w : Nat) : Int)), .int (iI ((h : Nat) : Int)), .ref ak, .ref ah])), (ak, .inl (cI, 100, .inl (aI K))), (ah, .inl (cI, 100, .inl (aI B)))] sz) := by
  refine m_of (cc := cX0_rows) (maxL := 1) (ret := (some .int)) (Qc := fun A => va_Qi (fun (r : Int32) (u : Unit) => r = iI ((h : Nat) : Int)) (fun (u : Unit) t => aftW D [(cI, .int), (cJ, .long)] [(b, .inr (0, [.int (iI ((w : Nat) : Int)), .int (iI ((h : Nat) : Int)), .ref ak, .ref ah])), (ak, .inl (cI, 100, .inl (aI K))), (ah, .inl (cI, 100, .inl (aI B)))] A t) A) RX0 [(0, .ref b)] (by decide) rfl rfl (Nat.le_of_ble_eq_true rfl) rfl (fun p e s m below meth c A ls Q S hr hlk hnm hAe hsz hP hK hD hA hZ hS hl hQ => ?_)
  have hi0 : ∀ w ∈ u_ws RX0 TX0 4, w ∈ wsX0_rows := by decide +kernel
  refine lv_aload_n S.1 S.2.1 dX0_rows_0 rfl (lv_at hl 0 rfl) ?_
  refine r_get S hi0 hK hP 0 rfl rfl 1 (by decide) (by decide +kernel) rfl rfl dX0_rows_1 ?_
  subst hQ
  exact e_iret S hr hlk hS (Nat.le_of_ble_eq_true rfl) (Nat.le_of_ble_eq_true rfl) (u := ()) (rfl) (aft_of hK hP hD) dX0_rows_4
set_option maxHeartbeats 4000000 in
set_option maxRecDepth 100000 in
theorem mX0_size (l : Launch) (D : va_G) (cI cJ : ClassId) (Z : Nat → Nat) (sz : Nat) (b : Nat) (ak : Nat) (ah : Nat) (w : Nat) (h : Nat) (K : Nat → Int) (B : Nat → Int) (hww : 3 ≤ w ∧ w ≤ 10) (hhh : 3 ≤ h ∧ h ≤ 10) : Met l yX0_size wsX0_size (rmk 0 0 0 0) (va_Pc [.ref b] (preW D [(cI, .int), (cJ, .long)] Z [(b, .inr (0, [.int (iI ((w : Nat) : Int)), .int (iI ((h : Nat) : Int)), .ref ak, .ref ah])), (ak, .inl (cI, 100, .inl (aI K))), (ah, .inl (cI, 100, .inl (aI B)))] sz)) (va_Qi (fun (r : Int32) (u : Unit) => r = iI ((w * h : Nat) : Int)) (fun (u : Unit) t => aftW D [(cI, .int), (cJ, .long)] [(b, .inr (0, [.int (iI ((w : Nat) : Int)), .int (iI ((h : Nat) : Int)), .ref ak, .ref ah])), (ak, .inl (cI, 100, .inl (aI K))), (ah, .inl (cI, 100, .inl (aI B)))] (va_A [(b, .inr (0, [.int (iI ((w : Nat) : Int)), .int (iI ((h : Nat) : Int)), .ref ak, .ref ah])), (ak, .inl (cI, 100, .inl (aI K))), (ah, .inl (cI, 100, .inl (aI B)))] sz) t) (va_A [(b, .inr (0, [.int (iI ((w : Nat) : Int)), .int (iI ((h : Nat) : Int)), .ref ak, .ref ah])), (ak, .inl (cI, 100, .inl (aI K))), (ah, .inl (cI, 100, .inl (aI B)))] sz)) 0 0 (va_A [(b, .inr (0, [.int (iI ((w : Nat) : Int)), .int (iI ((h : Nat) : Int)), .ref ak, .ref ah])), (ak, .inl (cI, 100, .inl (aI K))), (ah, .inl (cI, 100, .inl (aI B)))] sz) := by
  refine m_of (cc := cX0_size) (maxL := 1) (ret := (some .int)) (Qc := fun A => va_Qi (fun (r : Int32) (u : Unit) => r = iI ((w * h : Nat) : Int)) (fun (u : Unit) t => aftW D [(cI, .int), (cJ, .long)] [(b, .inr (0, [.int (iI ((w : Nat) : Int)), .int (iI ((h : Nat) : Int)), .ref ak, .ref ah])), (ak, .inl (cI, 100, .inl (aI K))), (ah, .inl (cI, 100, .inl (aI B)))] A t) A) RX0 [(0, .ref b)] (by decide) rfl rfl (Nat.le_of_ble_eq_true rfl) rfl (fun p e s m below meth c A ls Q S hr hlk hnm hAe hsz hP hK hD hA hZ hS hl hQ => ?_)
  have hi0 : ∀ w ∈ u_ws RX0 TX0 4, w ∈ wsX0_size := by decide +kernel
  refine lv_aload_n S.1 S.2.1 dX0_size_0 rfl (lv_at hl 0 rfl) ?_
  refine r_get S hi0 hK hP 0 rfl rfl 0 (by decide) (by decide +kernel) rfl rfl dX0_size_1 ?_
  refine lv_aload_n S.1 S.2.1 dX0_size_4 rfl (lv_at hl 0 rfl) ?_
  refine r_get S hi0 hK hP 0 rfl rfl 1 (by decide) (by decide +kernel) rfl rfl dX0_size_5 ?_
  refine r_imul S dX0_size_8 (z := (((w : Nat) : Int) * ((h : Nat) : Int))) (rfl) ?_
  subst hQ
  exact e_iret S hr hlk hS (Nat.le_of_ble_eq_true rfl) (Nat.le_of_ble_eq_true rfl) (u := ()) (rfl) (aft_of hK hP hD) dX0_size_9
set_option maxHeartbeats 4000000 in
set_option maxRecDepth 100000 in
theorem mX0_cell (l : Launch) (D : va_G) (cI cJ : ClassId) (Z : Nat → Nat) (sz : Nat) (b : Nat) (ak : Nat) (ah : Nat) (w : Nat) (h : Nat) (K : Nat → Int) (B : Nat → Int) (x : Int) (y : Int) (hww : 3 ≤ w ∧ w ≤ 10) (hhh : 3 ≤ h ∧ h ≤ 10) (hx : inR x) (hy : inR y) : Met l yX0_cell wsX0_cell (rmk 0 0 0 0) (va_Pc [.ref b, .int (iI x), .int (iI y)] (preW D [(cI, .int), (cJ, .long)] Z [(b, .inr (0, [.int (iI ((w : Nat) : Int)), .int (iI ((h : Nat) : Int)), .ref ak, .ref ah])), (ak, .inl (cI, 100, .inl (aI K))), (ah, .inl (cI, 100, .inl (aI B)))] sz)) (va_Qi (fun (r : Int32) (u : Unit) => r = iI (cellZ w h x y)) (fun (u : Unit) t => aftW D [(cI, .int), (cJ, .long)] [(b, .inr (0, [.int (iI ((w : Nat) : Int)), .int (iI ((h : Nat) : Int)), .ref ak, .ref ah])), (ak, .inl (cI, 100, .inl (aI K))), (ah, .inl (cI, 100, .inl (aI B)))] (va_A [(b, .inr (0, [.int (iI ((w : Nat) : Int)), .int (iI ((h : Nat) : Int)), .ref ak, .ref ah])), (ak, .inl (cI, 100, .inl (aI K))), (ah, .inl (cI, 100, .inl (aI B)))] sz) t) (va_A [(b, .inr (0, [.int (iI ((w : Nat) : Int)), .int (iI ((h : Nat) : Int)), .ref ak, .ref ah])), (ak, .inl (cI, 100, .inl (aI K))), (ah, .inl (cI, 100, .inl (aI B)))] sz)) 0 0 (va_A [(b, .inr (0, [.int (iI ((w : Nat) : Int)), .int (iI ((h : Nat) : Int)), .ref ak, .ref ah])), (ak, .inl (cI, 100, .inl (aI K))), (ah, .inl (cI, 100, .inl (aI B)))] sz) := by
  refine m_of (cc := cX0_cell) (maxL := 3) (ret := (some .int)) (Qc := fun A => va_Qi (fun (r : Int32) (u : Unit) => r = iI (cellZ w h x y)) (fun (u : Unit) t => aftW D [(cI, .int), (cJ, .long)] [(b, .inr (0, [.int (iI ((w : Nat) : Int)), .int (iI ((h : Nat) : Int)), .ref ak, .ref ah])), (ak, .inl (cI, 100, .inl (aI K))), (ah, .inl (cI, 100, .inl (aI B)))] A t) A) RX0 [(0, .ref b), (1, .int (iI x)), (2, .int (iI y))] (by decide) rfl rfl (Nat.le_of_ble_eq_true rfl) rfl (fun p e s m below meth c A ls Q S hr hlk hnm hAe hsz hP hK hD hA hZ hS hl hQ => ?_)
  have hi0 : ∀ w ∈ u_ws RX0 TX0 4, w ∈ wsX0_cell := by decide +kernel
  refine lv_iload_n S.1 S.2.1 dX0_cell_0 rfl (lv_at hl 1 rfl) ?_
  refine r_if_lt S (tgt := 24) dX0_cell_1 (by decide) ⟨by omega, by omega⟩ (fun c1 => ?_) (fun c1 => ?_)
  · refine r_iconst S dX0_cell_24 ?_
    subst hQ
    exact e_iret S hr hlk hS (Nat.le_of_ble_eq_true rfl) (Nat.le_of_ble_eq_true rfl) (u := ()) (by rw [cellZ_out (by omega)]) (aft_of hK hP hD) dX0_cell_25
  · refine lv_iload_n S.1 S.2.1 dX0_cell_4 rfl (lv_at hl 1 rfl) ?_
    refine lv_aload_n S.1 S.2.1 dX0_cell_5 rfl (lv_at hl 0 rfl) ?_
    refine r_get S hi0 hK hP 0 rfl rfl 0 (by decide) (by decide +kernel) rfl rfl dX0_cell_6 ?_
    refine r_icmp_ge S (tgt := 24) dX0_cell_9 (by decide) ⟨by omega, by omega⟩ ⟨by omega, by omega⟩ (fun c9 => ?_) (fun c9 => ?_)
    · refine r_iconst S dX0_cell_24 ?_
      subst hQ
      exact e_iret S hr hlk hS (Nat.le_of_ble_eq_true rfl) (Nat.le_of_ble_eq_true rfl) (u := ()) (by rw [cellZ_out (by omega)]) (aft_of hK hP hD) dX0_cell_25
    · refine lv_iload_n S.1 S.2.1 dX0_cell_12 rfl (lv_at hl 2 rfl) ?_
      refine r_if_lt S (tgt := 24) dX0_cell_13 (by decide) ⟨by omega, by omega⟩ (fun c13 => ?_) (fun c13 => ?_)
      · refine r_iconst S dX0_cell_24 ?_
        subst hQ
        exact e_iret S hr hlk hS (Nat.le_of_ble_eq_true rfl) (Nat.le_of_ble_eq_true rfl) (u := ()) (by rw [cellZ_out (by omega)]) (aft_of hK hP hD) dX0_cell_25
      · refine lv_iload_n S.1 S.2.1 dX0_cell_16 rfl (lv_at hl 2 rfl) ?_
        refine lv_aload_n S.1 S.2.1 dX0_cell_17 rfl (lv_at hl 0 rfl) ?_
        refine r_get S hi0 hK hP 0 rfl rfl 1 (by decide) (by decide +kernel) rfl rfl dX0_cell_18 ?_
        refine r_icmp_lt S (tgt := 26) dX0_cell_21 (by decide) ⟨by omega, by omega⟩ ⟨by omega, by omega⟩ (fun c21 => ?_) (fun c21 => ?_)
        · refine lv_aload_n S.1 S.2.1 dX0_cell_26 rfl (lv_at hl 0 rfl) ?_
          refine r_get S hi0 hK hP 0 rfl rfl 0 (by decide) (by decide +kernel) rfl rfl dX0_cell_27 ?_
          refine lv_iload_n S.1 S.2.1 dX0_cell_30 rfl (lv_at hl 2 rfl) ?_
          refine r_imul S dX0_cell_31 (z := (((w : Nat) : Int) * y)) (rfl) ?_
          refine lv_iload_n S.1 S.2.1 dX0_cell_32 rfl (lv_at hl 1 rfl) ?_
          refine r_iadd S dX0_cell_33 (z := ((((w : Nat) : Int) * y) + x)) (rfl) ?_
          subst hQ
          exact e_iret S hr hlk hS (Nat.le_of_ble_eq_true rfl) (Nat.le_of_ble_eq_true rfl) (u := ()) (by rw [cellZ_in (by omega) (by omega) (by omega) (by omega)]) (aft_of hK hP hD) dX0_cell_34
        · refine r_iconst S dX0_cell_24 ?_
          subst hQ
          exact e_iret S hr hlk hS (Nat.le_of_ble_eq_true rfl) (Nat.le_of_ble_eq_true rfl) (u := ()) (by rw [cellZ_out (by omega)]) (aft_of hK hP hD) dX0_cell_25
set_option maxHeartbeats 4000000 in
set_option maxRecDepth 100000 in
theorem mX0_holds (l : Launch) (D : va_G) (cI cJ : ClassId) (Z : Nat → Nat) (sz : Nat) (b : Nat) (ak : Nat) (ah : Nat) (w : Nat) (h : Nat) (K : Nat → Int) (B : Nat → Int) (x : Int) (y : Int) (w0 : Int) (h0 : Int) (hww : 3 ≤ w ∧ w ≤ 10) (hhh : 3 ≤ h ∧ h ≤ 10) (hx : inR x) (hy : inR y) (hw0 : inR w0) (hh0 : inR h0) : Met l yX0_holds wsX0_holds (rmk 1 0 0 22) (va_Pc [.ref b, .int (iI x), .int (iI y), .int (iI w0), .int (iI h0)] (preW D [(cI, .int), (cJ, .long)] Z [(b, .inr (0, [.int (iI ((w : Nat) : Int)), .int (iI ((h : Nat) : Int)), .ref ak, .ref ah])), (ak, .inl (cI, 100, .inl (aI K))), (ah, .inl (cI, 100, .inl (aI B)))] sz)) (va_Qi (fun (r : Int32) (u : Unit) => r = iI (holdsZ w h x y w0 h0)) (fun (u : Unit) t => aftW D [(cI, .int), (cJ, .long)] [(b, .inr (0, [.int (iI ((w : Nat) : Int)), .int (iI ((h : Nat) : Int)), .ref ak, .ref ah])), (ak, .inl (cI, 100, .inl (aI K))), (ah, .inl (cI, 100, .inl (aI B)))] (va_A [(b, .inr (0, [.int (iI ((w : Nat) : Int)), .int (iI ((h : Nat) : Int)), .ref ak, .ref ah])), (ak, .inl (cI, 100, .inl (aI K))), (ah, .inl (cI, 100, .inl (aI B)))] sz) t) (va_A [(b, .inr (0, [.int (iI ((w : Nat) : Int)), .int (iI ((h : Nat) : Int)), .ref ak, .ref ah])), (ak, .inl (cI, 100, .inl (aI K))), (ah, .inl (cI, 100, .inl (aI B)))] sz)) 0 0 (va_A [(b, .inr (0, [.int (iI ((w : Nat) : Int)), .int (iI ((h : Nat) : Int)), .ref ak, .ref ah])), (ak, .inl (cI, 100, .inl (aI K))), (ah, .inl (cI, 100, .inl (aI B)))] sz) := by
  refine m_of (cc := cX0_holds) (maxL := 5) (ret := (some .boolean)) (Qc := fun A => va_Qi (fun (r : Int32) (u : Unit) => r = iI (holdsZ w h x y w0 h0)) (fun (u : Unit) t => aftW D [(cI, .int), (cJ, .long)] [(b, .inr (0, [.int (iI ((w : Nat) : Int)), .int (iI ((h : Nat) : Int)), .ref ak, .ref ah])), (ak, .inl (cI, 100, .inl (aI K))), (ah, .inl (cI, 100, .inl (aI B)))] A t) A) RX0 [(0, .ref b), (1, .int (iI x)), (2, .int (iI y)), (3, .int (iI w0)), (4, .int (iI h0))] (by decide) rfl rfl (Nat.le_of_ble_eq_true rfl) rfl (fun p e s m below meth c A ls Q S hr hlk hnm hAe hsz hP hK hD hA hZ hS hl hQ => ?_)
  have hi0 : ∀ w ∈ u_ws RX0 TX0 4, w ∈ wsX0_holds := by decide +kernel
  have hc := cellZ_rng w h x y
  have hsz := size_le hww hhh
  have hci : cellZ w h x y = -1 ∨ (0 ≤ x ∧ x < w ∧ 0 ≤ y ∧ y < h) := by
    by_cases q : 0 ≤ x ∧ x < w ∧ 0 ≤ y ∧ y < h
    · exact Or.inr q
    · exact Or.inl (if_neg q)
  have hcj : (0 ≤ x ∧ x < w ∧ 0 ≤ y ∧ y < h) → cellZ w h x y ≠ -1 := fun q e => by rw [cellZ_in q.1 q.2.1 q.2.2.1 q.2.2.2] at e; have := idx_lt q.1 q.2.1 q.2.2.1 q.2.2.2; omega
  refine lv_aload_n S.1 S.2.1 dX0_holds_0 rfl (lv_at hl 0 rfl) ?_
  refine lv_iload_n S.1 S.2.1 dX0_holds_1 rfl (lv_at hl 1 rfl) ?_
  refine lv_iload_n S.1 S.2.1 dX0_holds_2 rfl (lv_at hl 2 rfl) ?_
  refine k_i (wr := []) (va_runV (As := [.int (iI x), .int (iI y)]) (rest := []) S (mX0_cell l D cI cJ Z _ b ak ah w h K B x y (by first | with_reducible assumption | omega | exact ⟨by omega, by omega⟩ | assumption) (by first | with_reducible assumption | omega | exact ⟨by omega, by omega⟩ | assumption) (by first | with_reducible assumption | omega | exact ⟨by omega, by omega⟩ | assumption) (by first | with_reducible assumption | omega | exact ⟨by omega, by omega⟩ | assumption)) (cwV 2 S.2.2.2.2 gX0_holds_X0_cell rfl rfl rfl (by decide +kernel) ⟨Nat.le_of_ble_eq_true rfl, Nat.le_of_ble_eq_true rfl⟩) (preV_of hK hP hD hS hA hZ [0, 1, 2] (by decide) rfl 0 0 rfl rfl) rfl rfl hl.1 rfl (lv_room (Nat.le_of_ble_eq_true rfl)) dX0_holds_3 ⟨Nat.le_of_ble_eq_true rfl, Nat.le_of_ble_eq_true rfl⟩) hP hD hS hA [0, 1, 2] [] rfl rfl (by decide) (by decide) [0, 1, 2] (by decide) (fun u => [(b, .inr (0, [.int (iI ((w : Nat) : Int)), .int (iI ((h : Nat) : Int)), .ref ak, .ref ah])), (ak, .inl (cI, 100, .inl (aI K))), (ah, .inl (cI, 100, .inl (aI B)))]) (fun u => rfl) (fun r u H locs hpo hP hD hS => ?_)
  obtain rfl := hpo
  refine r_iconst S dX0_holds_6 ?_
  refine r_icmp_eq S (tgt := 35) dX0_holds_7 (by decide) ⟨by omega, by omega⟩ ⟨by decide, by decide⟩ (fun c7 => ?_) (fun c7 => ?_)
  · refine r_iconst S dX0_holds_35 ?_
    subst hQ
    exact e_zret S hr hlk hS (Nat.le_of_ble_eq_true rfl) (Nat.le_of_ble_eq_true rfl) (by omega) (u := ()) (by rw [holdsZ]; first | (rw [if_pos (by omega)]) | (rw [if_neg (by omega)])) (aft_of hK hP hD) dX0_holds_36
  · refine lv_iload_n S.1 S.2.1 dX0_holds_10 rfl (lv_at hl 3 rfl) ?_
    refine lv_aload_n S.1 S.2.1 dX0_holds_11 rfl (lv_at hl 0 rfl) ?_
    refine r_get S hi0 hK hP 0 rfl rfl 0 (by decide) (by decide +kernel) rfl rfl dX0_holds_12 ?_
    refine lv_iload_n S.1 S.2.1 dX0_holds_15 rfl (lv_at hl 1 rfl) ?_
    refine r_isub S dX0_holds_16 (z := (((w : Nat) : Int) - x)) (rfl) ?_
    refine r_icmp_gt S (tgt := 35) dX0_holds_17 (by decide) ⟨by omega, by omega⟩ ⟨by omega, by omega⟩ (fun c17 => ?_) (fun c17 => ?_)
    · refine r_iconst S dX0_holds_35 ?_
      subst hQ
      exact e_zret S hr hlk hS (Nat.le_of_ble_eq_true rfl) (Nat.le_of_ble_eq_true rfl) (by omega) (u := ()) (by rw [holdsZ]; first | (rw [if_pos (by omega)]) | (rw [if_neg (by omega)])) (aft_of hK hP hD) dX0_holds_36
    · refine lv_iload S.1 S.2.1 dX0_holds_20 (lv_at hl 4 rfl) ?_
      refine lv_aload_n S.1 S.2.1 dX0_holds_22 rfl (lv_at hl 0 rfl) ?_
      refine r_get S hi0 hK hP 0 rfl rfl 1 (by decide) (by decide +kernel) rfl rfl dX0_holds_23 ?_
      refine lv_iload_n S.1 S.2.1 dX0_holds_26 rfl (lv_at hl 2 rfl) ?_
      refine r_isub S dX0_holds_27 (z := (((h : Nat) : Int) - y)) (rfl) ?_
      refine r_icmp_gt S (tgt := 35) dX0_holds_28 (by decide) ⟨by omega, by omega⟩ ⟨by omega, by omega⟩ (fun c28 => ?_) (fun c28 => ?_)
      · refine r_iconst S dX0_holds_35 ?_
        subst hQ
        exact e_zret S hr hlk hS (Nat.le_of_ble_eq_true rfl) (Nat.le_of_ble_eq_true rfl) (by omega) (u := ()) (by rw [holdsZ]; first | (rw [if_pos (by omega)]) | (rw [if_neg (by omega)])) (aft_of hK hP hD) dX0_holds_36
      · refine r_iconst S dX0_holds_31 ?_
        refine r_goto S (tgt := 36) dX0_holds_32 (by decide) ?_
        subst hQ
        exact e_zret S hr hlk hS (Nat.le_of_ble_eq_true rfl) (Nat.le_of_ble_eq_true rfl) (by omega) (u := ()) (by rw [holdsZ]; first | (rw [if_pos (by omega)]) | (rw [if_neg (by omega)])) (aft_of hK hP hD) dX0_holds_36
set_option maxHeartbeats 4000000 in
set_option maxRecDepth 100000 in
theorem mX0_hasPlace (l : Launch) (D : va_G) (cI cJ : ClassId) (Z : Nat → Nat) (sz : Nat) (c0 : Int) (hc : inR c0) : Met l yX0_hasPlace wsX0_hasPlace (rmk 0 0 0 0) (va_Pc [.int (iI c0)] (preW D [(cI, .int), (cJ, .long)] Z [] sz)) (va_Qi (fun (r : Int32) (u : Unit) => r = iI (placeZ c0)) (fun (u : Unit) t => aftW D [(cI, .int), (cJ, .long)] [] (va_A [] sz) t) (va_A [] sz)) 0 0 (va_A [] sz) := by
  refine m_of (cc := cX0_hasPlace) (maxL := 1) (ret := (some .boolean)) (Qc := fun A => va_Qi (fun (r : Int32) (u : Unit) => r = iI (placeZ c0)) (fun (u : Unit) t => aftW D [(cI, .int), (cJ, .long)] [] A t) A) RX0 [(0, .int (iI c0))] (by decide) rfl rfl (Nat.le_of_ble_eq_true rfl) rfl (fun p e s m below meth c A ls Q S hr hlk hnm hAe hsz hP hK hD hA hZ hS hl hQ => ?_)
  refine lv_iload_n S.1 S.2.1 dX0_hasPlace_0 rfl (lv_at hl 0 rfl) ?_
  refine r_if_lt S (tgt := 14) dX0_hasPlace_1 (by decide) ⟨by omega, by omega⟩ (fun c1 => ?_) (fun c1 => ?_)
  · refine r_iconst S dX0_hasPlace_14 ?_
    subst hQ
    exact e_zret S hr hlk hS (Nat.le_of_ble_eq_true rfl) (Nat.le_of_ble_eq_true rfl) (by omega) (u := ()) (by rw [placeZ]; first | (rw [if_pos (by omega)]) | (rw [if_neg (by omega)])) (aft_of hK hP hD) dX0_hasPlace_15
  · refine lv_iload_n S.1 S.2.1 dX0_hasPlace_4 rfl (lv_at hl 0 rfl) ?_
    refine r_bipush S dX0_hasPlace_5 (by decide) ?_
    refine r_icmp_ge S (tgt := 14) dX0_hasPlace_7 (by decide) ⟨by omega, by omega⟩ ⟨by decide, by decide⟩ (fun c7 => ?_) (fun c7 => ?_)
    · refine r_iconst S dX0_hasPlace_14 ?_
      subst hQ
      exact e_zret S hr hlk hS (Nat.le_of_ble_eq_true rfl) (Nat.le_of_ble_eq_true rfl) (by omega) (u := ()) (by rw [placeZ]; first | (rw [if_pos (by omega)]) | (rw [if_neg (by omega)])) (aft_of hK hP hD) dX0_hasPlace_15
    · refine r_iconst S dX0_hasPlace_10 ?_
      refine r_goto S (tgt := 15) dX0_hasPlace_11 (by decide) ?_
      subst hQ
      exact e_zret S hr hlk hS (Nat.le_of_ble_eq_true rfl) (Nat.le_of_ble_eq_true rfl) (by omega) (u := ()) (by rw [placeZ]; first | (rw [if_pos (by omega)]) | (rw [if_neg (by omega)])) (aft_of hK hP hD) dX0_hasPlace_15
set_option maxHeartbeats 4000000 in
set_option maxRecDepth 100000 in
theorem mX0_kind (l : Launch) (D : va_G) (cI cJ : ClassId) (Z : Nat → Nat) (sz : Nat) (b : Nat) (ak : Nat) (ah : Nat) (w : Nat) (h : Nat) (K : Nat → Int) (B : Nat → Int) (c0 : Int) (hww : 3 ≤ w ∧ w ≤ 10) (hhh : 3 ≤ h ∧ h ≤ 10) (hc : inR c0) : Met l yX0_kind wsX0_kind (rmk 1 0 0 20) (va_Pc [.ref b, .int (iI c0)] (preW D [(cI, .int), (cJ, .long)] Z [(b, .inr (0, [.int (iI ((w : Nat) : Int)), .int (iI ((h : Nat) : Int)), .ref ak, .ref ah])), (ak, .inl (cI, 100, .inl (aI K))), (ah, .inl (cI, 100, .inl (aI B)))] sz)) (va_Qi (fun (r : Int32) (u : Unit) => r = iI (kindZ K c0)) (fun (u : Unit) t => aftW D [(cI, .int), (cJ, .long)] [(b, .inr (0, [.int (iI ((w : Nat) : Int)), .int (iI ((h : Nat) : Int)), .ref ak, .ref ah])), (ak, .inl (cI, 100, .inl (aI K))), (ah, .inl (cI, 100, .inl (aI B)))] (va_A [(b, .inr (0, [.int (iI ((w : Nat) : Int)), .int (iI ((h : Nat) : Int)), .ref ak, .ref ah])), (ak, .inl (cI, 100, .inl (aI K))), (ah, .inl (cI, 100, .inl (aI B)))] sz) t) (va_A [(b, .inr (0, [.int (iI ((w : Nat) : Int)), .int (iI ((h : Nat) : Int)), .ref ak, .ref ah])), (ak, .inl (cI, 100, .inl (aI K))), (ah, .inl (cI, 100, .inl (aI B)))] sz)) 0 0 (va_A [(b, .inr (0, [.int (iI ((w : Nat) : Int)), .int (iI ((h : Nat) : Int)), .ref ak, .ref ah])), (ak, .inl (cI, 100, .inl (aI K))), (ah, .inl (cI, 100, .inl (aI B)))] sz) := by
  refine m_of (cc := cX0_kind) (maxL := 2) (ret := (some .int)) (Qc := fun A => va_Qi (fun (r : Int32) (u : Unit) => r = iI (kindZ K c0)) (fun (u : Unit) t => aftW D [(cI, .int), (cJ, .long)] [(b, .inr (0, [.int (iI ((w : Nat) : Int)), .int (iI ((h : Nat) : Int)), .ref ak, .ref ah])), (ak, .inl (cI, 100, .inl (aI K))), (ah, .inl (cI, 100, .inl (aI B)))] A t) A) RX0 [(0, .ref b), (1, .int (iI c0))] (by decide) rfl rfl (Nat.le_of_ble_eq_true rfl) rfl (fun p e s m below meth c A ls Q S hr hlk hnm hAe hsz hP hK hD hA hZ hS hl hQ => ?_)
  have hi0 : ∀ w ∈ u_ws RX0 TX0 4, w ∈ wsX0_kind := by decide +kernel
  refine lv_iload_n S.1 S.2.1 dX0_kind_0 rfl (lv_at hl 1 rfl) ?_
  refine k_i (wr := [(b, .inr (0, [.int (iI ((w : Nat) : Int)), .int (iI ((h : Nat) : Int)), .ref ak, .ref ah])), (ak, .inl (cI, 100, .inl (aI K))), (ah, .inl (cI, 100, .inl (aI B)))]) (va_runS (As := [.int (iI c0)]) (rest := []) S (mX0_hasPlace l D cI cJ Z _ c0 (by first | with_reducible assumption | omega | exact ⟨by omega, by omega⟩ | assumption)) (va_cwS 1 S.2.2.2.2 gX0_kind_X0_hasPlace rfl rfl rfl (by decide +kernel) ⟨Nat.le_of_ble_eq_true rfl, Nat.le_of_ble_eq_true rfl⟩) (preS_of hK hP hD hS hA hZ [] (by decide) rfl) rfl rfl hl.1 rfl (lv_room (Nat.le_of_ble_eq_true rfl)) dX0_kind_1 ⟨Nat.le_of_ble_eq_true rfl, Nat.le_of_ble_eq_true rfl⟩) hP hD hS hA [] [0, 1, 2] rfl rfl (by decide) (by decide) [0, 1, 2] (by decide) (fun u => [(b, .inr (0, [.int (iI ((w : Nat) : Int)), .int (iI ((h : Nat) : Int)), .ref ak, .ref ah])), (ak, .inl (cI, 100, .inl (aI K))), (ah, .inl (cI, 100, .inl (aI B)))]) (fun u => rfl) (fun r u H locs hpo hP hD hS => ?_)
  obtain rfl := hpo
  have hpr := placeZ_rng c0
  refine r_if_eq S (tgt := 16) dX0_kind_4 (by decide) ⟨by omega, by omega⟩ (fun c4 => ?_) (fun c4 => ?_)
  · have hp0 := placeZ_0 c4
    refine r_iconst S dX0_kind_16 ?_
    subst hQ
    exact e_iret S hr hlk hS (Nat.le_of_ble_eq_true rfl) (Nat.le_of_ble_eq_true rfl) (u := ()) (by first | (rw [kindZ_in (by omega) (by omega)]) | (rw [kindZ_out (by omega)])) (aft_of hK hP hD) dX0_kind_17
  · have hp1 := placeZ_1 c4
    refine lv_aload_n S.1 S.2.1 dX0_kind_7 rfl (lv_at hl 0 rfl) ?_
    refine r_get S hi0 hK hP 0 rfl rfl 2 (by decide) (by decide +kernel) rfl rfl dX0_kind_8 ?_
    refine lv_iload_n S.1 S.2.1 dX0_kind_11 rfl (lv_at hl 1 rfl) ?_
    refine r_iald S hK hP 1 0 rfl rfl c0.toNat (by omega) (by omega) (by decide) dX0_kind_12 ?_
    refine r_goto S (tgt := 17) dX0_kind_13 (by decide) ?_
    subst hQ
    exact e_iret S hr hlk hS (Nat.le_of_ble_eq_true rfl) (Nat.le_of_ble_eq_true rfl) (u := ()) (by first | (rw [kindZ_in (by omega) (by omega)]) | (rw [kindZ_out (by omega)])) (aft_of hK hP hD) dX0_kind_17
set_option maxHeartbeats 4000000 in
set_option maxRecDepth 100000 in
theorem mX0_put (l : Launch) (D : va_G) (cI cJ : ClassId) (Z : Nat → Nat) (sz : Nat) (b : Nat) (ak : Nat) (ah : Nat) (w : Nat) (h : Nat) (K : Nat → Int) (B : Nat → Int) (c0 : Int) (v : Int) (hww : 3 ≤ w ∧ w ≤ 10) (hhh : 3 ≤ h ∧ h ≤ 10) (hc : 0 ≤ c0 ∧ c0 < 100) : Met l yX0_put wsX0_put (rmk 1 0 0 20) (va_Pc [.ref b, .int (iI c0), .int (iI v)] (preW D [(cI, .int), (cJ, .long)] Z [(b, .inr (0, [.int (iI ((w : Nat) : Int)), .int (iI ((h : Nat) : Int)), .ref ak, .ref ah])), (ak, .inl (cI, 100, .inl (aI K))), (ah, .inl (cI, 100, .inl (aI B)))] sz)) (va_Qv (fun (u : Unit) => True) (fun (u : Unit) t => aftW D [(cI, .int), (cJ, .long)] [(b, .inr (0, [.int (iI ((w : Nat) : Int)), .int (iI ((h : Nat) : Int)), .ref ak, .ref ah])), (ak, .inl (cI, 100, .inl (aI (upZ K c0.toNat v)))), (ah, .inl (cI, 100, .inl (aI B)))] (va_A [(b, .inr (0, [.int (iI ((w : Nat) : Int)), .int (iI ((h : Nat) : Int)), .ref ak, .ref ah])), (ak, .inl (cI, 100, .inl (aI K))), (ah, .inl (cI, 100, .inl (aI B)))] sz) t) (va_A [(b, .inr (0, [.int (iI ((w : Nat) : Int)), .int (iI ((h : Nat) : Int)), .ref ak, .ref ah])), (ak, .inl (cI, 100, .inl (aI K))), (ah, .inl (cI, 100, .inl (aI B)))] sz)) 0 0 (va_A [(b, .inr (0, [.int (iI ((w : Nat) : Int)), .int (iI ((h : Nat) : Int)), .ref ak, .ref ah])), (ak, .inl (cI, 100, .inl (aI K))), (ah, .inl (cI, 100, .inl (aI B)))] sz) := by
  refine m_of (cc := cX0_put) (maxL := 3) (ret := none) (Qc := fun A => va_Qv (fun (u : Unit) => True) (fun (u : Unit) t => aftW D [(cI, .int), (cJ, .long)] [(b, .inr (0, [.int (iI ((w : Nat) : Int)), .int (iI ((h : Nat) : Int)), .ref ak, .ref ah])), (ak, .inl (cI, 100, .inl (aI (upZ K c0.toNat v)))), (ah, .inl (cI, 100, .inl (aI B)))] A t) A) RX0 [(0, .ref b), (1, .int (iI c0)), (2, .int (iI v))] (by decide) rfl rfl (Nat.le_of_ble_eq_true rfl) rfl (fun p e s m below meth c A ls Q S hr hlk hnm hAe hsz hP hK hD hA hZ hS hl hQ => ?_)
  have hi0 : ∀ w ∈ u_ws RX0 TX0 4, w ∈ wsX0_put := by decide +kernel
  refine lv_iload_n S.1 S.2.1 dX0_put_0 rfl (lv_at hl 1 rfl) ?_
  refine k_i (wr := [(b, .inr (0, [.int (iI ((w : Nat) : Int)), .int (iI ((h : Nat) : Int)), .ref ak, .ref ah])), (ak, .inl (cI, 100, .inl (aI K))), (ah, .inl (cI, 100, .inl (aI B)))]) (va_runS (As := [.int (iI c0)]) (rest := []) S (mX0_hasPlace l D cI cJ Z _ c0 (by first | with_reducible assumption | omega | exact ⟨by omega, by omega⟩ | assumption)) (va_cwS 1 S.2.2.2.2 gX0_put_X0_hasPlace rfl rfl rfl (by decide +kernel) ⟨Nat.le_of_ble_eq_true rfl, Nat.le_of_ble_eq_true rfl⟩) (preS_of hK hP hD hS hA hZ [] (by decide) rfl) rfl rfl hl.1 rfl (lv_room (Nat.le_of_ble_eq_true rfl)) dX0_put_1 ⟨Nat.le_of_ble_eq_true rfl, Nat.le_of_ble_eq_true rfl⟩) hP hD hS hA [] [0, 1, 2] rfl rfl (by decide) (by decide) [0, 1, 2] (by decide) (fun u => [(b, .inr (0, [.int (iI ((w : Nat) : Int)), .int (iI ((h : Nat) : Int)), .ref ak, .ref ah])), (ak, .inl (cI, 100, .inl (aI K))), (ah, .inl (cI, 100, .inl (aI B)))]) (fun u => rfl) (fun r u H locs hpo hP hD hS => ?_)
  obtain rfl := hpo
  have hpr := placeZ_rng c0
  refine r_if_eq S (tgt := 14) dX0_put_4 (by decide) ⟨by omega, by omega⟩ (fun c4 => ?_) (fun c4 => ?_)
  · exact absurd (placeZ_0 c4) (by omega)
  · refine lv_aload_n S.1 S.2.1 dX0_put_7 rfl (lv_at hl 0 rfl) ?_
    refine r_get S hi0 hK hP 0 rfl rfl 2 (by decide) (by decide +kernel) rfl rfl dX0_put_8 ?_
    refine lv_iload_n S.1 S.2.1 dX0_put_11 rfl (lv_at hl 1 rfl) ?_
    refine lv_iload_n S.1 S.2.1 dX0_put_12 rfl (lv_at hl 2 rfl) ?_
    refine r_iast S hK hP hD hS 1 0 rfl rfl c0.toNat (by omega) (by omega) (by decide) dX0_put_13 [(b, .inr (0, [.int (iI ((w : Nat) : Int)), .int (iI ((h : Nat) : Int)), .ref ak, .ref ah])), (ak, .inl (cI, 100, .inl (aI (upZ K c0.toNat v)))), (ah, .inl (cI, 100, .inl (aI B)))] rfl (fun H locs hP hD hS => ?_)
    subst hQ
    exact e_vret S hr hlk hS (Nat.le_of_ble_eq_true rfl) (Nat.le_of_ble_eq_true rfl) (u := ()) (trivial) (aft_of hK hP hD) dX0_put_14
set_option maxHeartbeats 4000000 in
set_option maxRecDepth 100000 in
theorem mX0_many (l : Launch) (D : va_G) (cI cJ : ClassId) (Z : Nat → Nat) (sz : Nat) (b : Nat) (ak : Nat) (ah : Nat) (w : Nat) (h : Nat) (K : Nat → Int) (B : Nat → Int) (kd : Int) (hww : 3 ≤ w ∧ w ≤ 10) (hhh : 3 ≤ h ∧ h ≤ 10) (hk : inR kd) (hKK : okK K) : Met l yX0_many wsX0_many (rmk 2 0 0 41) (va_Pc [.ref b, .int (iI kd)] (preW D [(cI, .int), (cJ, .long)] Z [(b, .inr (0, [.int (iI ((w : Nat) : Int)), .int (iI ((h : Nat) : Int)), .ref ak, .ref ah])), (ak, .inl (cI, 100, .inl (aI K))), (ah, .inl (cI, 100, .inl (aI B)))] sz)) (va_Qi (fun (r : Int32) (u : Unit) => r = iI ((cntI K kd (w * h) : Nat) : Int)) (fun (u : Unit) t => aftW D [(cI, .int), (cJ, .long)] [(b, .inr (0, [.int (iI ((w : Nat) : Int)), .int (iI ((h : Nat) : Int)), .ref ak, .ref ah])), (ak, .inl (cI, 100, .inl (aI K))), (ah, .inl (cI, 100, .inl (aI B)))] (va_A [(b, .inr (0, [.int (iI ((w : Nat) : Int)), .int (iI ((h : Nat) : Int)), .ref ak, .ref ah])), (ak, .inl (cI, 100, .inl (aI K))), (ah, .inl (cI, 100, .inl (aI B)))] sz) t) (va_A [(b, .inr (0, [.int (iI ((w : Nat) : Int)), .int (iI ((h : Nat) : Int)), .ref ak, .ref ah])), (ak, .inl (cI, 100, .inl (aI K))), (ah, .inl (cI, 100, .inl (aI B)))] sz)) 0 0 (va_A [(b, .inr (0, [.int (iI ((w : Nat) : Int)), .int (iI ((h : Nat) : Int)), .ref ak, .ref ah])), (ak, .inl (cI, 100, .inl (aI K))), (ah, .inl (cI, 100, .inl (aI B)))] sz) := by
  refine m_of (cc := cX0_many) (maxL := 4) (ret := (some .int)) (Qc := fun A => va_Qi (fun (r : Int32) (u : Unit) => r = iI ((cntI K kd (w * h) : Nat) : Int)) (fun (u : Unit) t => aftW D [(cI, .int), (cJ, .long)] [(b, .inr (0, [.int (iI ((w : Nat) : Int)), .int (iI ((h : Nat) : Int)), .ref ak, .ref ah])), (ak, .inl (cI, 100, .inl (aI K))), (ah, .inl (cI, 100, .inl (aI B)))] A t) A) RX0 [(0, .ref b), (1, .int (iI kd))] (by decide) rfl rfl (Nat.le_of_ble_eq_true rfl) rfl (fun p e s m below meth c A ls Q S hr hlk hnm hAe hsz hP hK hD hA hZ hS hl hQ => ?_)
  have hsz := size_le hww hhh
  refine r_iconst S dX0_many_0 ?_
  refine lv_istore_n (lv' := [(2, .int (iI 0)), (0, .ref b), (1, .int (iI kd))]) S.1 S.2.1 dX0_many_1 rfl hl (by decide) rfl (fun ls hl => ?_)
  refine r_iconst S dX0_many_2 ?_
  refine lv_istore_n (lv' := [(3, .int (iI 0)), (2, .int (iI 0)), (0, .ref b), (1, .int (iI kd))]) S.1 S.2.1 dX0_many_3 rfl hl (by decide) rfl (fun ls hl => ?_)
  have lp4 : ∀ (fu : Nat) (i : Nat) (v : Int), w * h - i < fu → (i ≤ w * h) → (v = cntI K kd i) → ∀ (H : Heap) (locs : List Loc) (ls : Array Slot), va_P D vwCl [(b, .inr (0, [.int (iI ((w : Nat) : Int)), .int (iI ((h : Nat) : Int)), .ref ak, .ref ah])), (ak, .inl (cI, 100, .inl (aI K))), (ah, .inl (cI, 100, .inl (aI B)))] H → va_D A [(b, .inr (0, [.int (iI ((w : Nat) : Int)), .int (iI ((h : Nat) : Int)), .ref ak, .ref ah])), (ak, .inl (cI, 100, .inl (aI K))), (ah, .inl (cI, 100, .inl (aI B)))] → va_S A s.heap H locs → lv_has ls 4 [(0, .ref b), (1, .int (iI kd)), (2, .int (iI v)), (3, .int (iI ((i : Nat) : Int)))] → W p l e (rmk 2 0 0 41) s m ([.ref b, .int (iI kd)] : List Value).toArray below meth c H locs 0 0 Q (F0 m 4 ls []) := by
    intro fu
    induction fu with
    | zero => intro i v hmu; exact absurd hmu (Nat.not_lt_zero _)
    | succ fu ih_lp4 =>
      intro i v hmu hi hv H locs ls hP hD hS hl
      refine lv_iload_n S.1 S.2.1 dX0_many_4 rfl (lv_at hl 3 rfl) ?_
      refine lv_aload_n S.1 S.2.1 dX0_many_5 rfl (lv_at hl 0 rfl) ?_
      refine k_i (wr := []) (va_runV (As := []) (rest := [.int (iI ((i : Nat) : Int))]) S (mX0_size l D cI cJ Z _ b ak ah w h K B (by first | with_reducible assumption | omega | exact ⟨by omega, by omega⟩ | assumption) (by first | with_reducible assumption | omega | exact ⟨by omega, by omega⟩ | assumption)) (cwV 0 S.2.2.2.2 gX0_many_X0_size rfl rfl rfl (by decide +kernel) ⟨Nat.le_of_ble_eq_true rfl, Nat.le_of_ble_eq_true rfl⟩) (preV_of hK hP hD hS hA hZ [0, 1, 2] (by decide) rfl 0 0 rfl rfl) rfl rfl hl.1 rfl (lv_room (Nat.le_of_ble_eq_true rfl)) dX0_many_6 ⟨Nat.le_of_ble_eq_true rfl, Nat.le_of_ble_eq_true rfl⟩) hP hD hS hA [0, 1, 2] [] rfl rfl (by decide) (by decide) [0, 1, 2] (by decide) (fun u => [(b, .inr (0, [.int (iI ((w : Nat) : Int)), .int (iI ((h : Nat) : Int)), .ref ak, .ref ah])), (ak, .inl (cI, 100, .inl (aI K))), (ah, .inl (cI, 100, .inl (aI B)))]) (fun u => rfl) (fun r u H locs hpo hP hD hS => ?_)
      obtain rfl := hpo
      refine r_icmp_ge S (tgt := 30) dX0_many_9 (by decide) ⟨by omega, by omega⟩ ⟨by omega, by omega⟩ (fun c9 => ?_) (fun c9 => ?_)
      · refine lv_iload_n S.1 S.2.1 dX0_many_30 rfl (lv_at hl 2 rfl) ?_
        subst hQ
        exact e_iret S hr hlk hS (Nat.le_of_ble_eq_true rfl) (Nat.le_of_ble_eq_true rfl) (u := ()) (by rw [show w * h = i by omega, ← hv]) (aft_of hK hP hD) dX0_many_31
      · refine lv_aload_n S.1 S.2.1 dX0_many_12 rfl (lv_at hl 0 rfl) ?_
        refine lv_iload_n S.1 S.2.1 dX0_many_13 rfl (lv_at hl 3 rfl) ?_
        refine k_i (wr := []) (va_runV (As := [.int (iI ((i : Nat) : Int))]) (rest := []) S (mX0_kind l D cI cJ Z _ b ak ah w h K B ((i : Nat) : Int) (by first | with_reducible assumption | omega | exact ⟨by omega, by omega⟩ | assumption) (by first | with_reducible assumption | omega | exact ⟨by omega, by omega⟩ | assumption) (by first | with_reducible assumption | omega | exact ⟨by omega, by omega⟩ | assumption)) (cwV 1 S.2.2.2.2 gX0_many_X0_kind rfl rfl rfl (by decide +kernel) ⟨Nat.le_of_ble_eq_true rfl, Nat.le_of_ble_eq_true rfl⟩) (preV_of hK hP hD hS hA hZ [0, 1, 2] (by decide) rfl 0 0 rfl rfl) rfl rfl hl.1 rfl (lv_room (Nat.le_of_ble_eq_true rfl)) dX0_many_14 ⟨Nat.le_of_ble_eq_true rfl, Nat.le_of_ble_eq_true rfl⟩) hP hD hS hA [0, 1, 2] [] rfl rfl (by decide) (by decide) [0, 1, 2] (by decide) (fun u => [(b, .inr (0, [.int (iI ((w : Nat) : Int)), .int (iI ((h : Nat) : Int)), .ref ak, .ref ah])), (ak, .inl (cI, 100, .inl (aI K))), (ah, .inl (cI, 100, .inl (aI B)))]) (fun u => rfl) (fun r u H locs hpo hP hD hS => ?_)
        obtain rfl := hpo
        have hkr := kindZ_rng hKK ((i : Nat) : Int)
        have hcl := cntI_le K kd i
        refine lv_iload_n S.1 S.2.1 dX0_many_17 rfl (lv_at hl 1 rfl) ?_
        refine r_icmp_ne S (tgt := 24) dX0_many_18 (by decide) ⟨by omega, by omega⟩ ⟨by omega, by omega⟩ (fun c18 => ?_) (fun c18 => ?_)
        · refine r_iinc S (z := ((i + 1 : Nat) : Int)) (k0 := 3) (lv' := [(3, .int (iI ((i + 1 : Nat) : Int))), (0, .ref b), (1, .int (iI kd)), (2, .int (iI v))]) dX0_many_24 hl rfl (by omega) (by decide) rfl (fun ls hl => ?_)
          refine r_goto S (tgt := 4) dX0_many_27 (by decide) ?_
          exact ih_lp4 (i + 1) v (by omega) (by omega) (by rw [cntI_s]; rw [kindZ_in (by omega) (by omega)] at c18; simp only [Int.toNat_natCast] at c18; split <;> omega) _ _ _ hP hD hS (lv_sub hl [1, 2, 3, 0] rfl)
        · refine r_iinc S (z := (v + 1)) (k0 := 2) (lv' := [(2, .int (iI (v + 1))), (0, .ref b), (1, .int (iI kd)), (3, .int (iI ((i : Nat) : Int)))]) dX0_many_21 hl rfl (rfl) (by decide) rfl (fun ls hl => ?_)
          refine r_iinc S (z := ((i + 1 : Nat) : Int)) (k0 := 3) (lv' := [(3, .int (iI ((i + 1 : Nat) : Int))), (2, .int (iI (v + 1))), (0, .ref b), (1, .int (iI kd))]) dX0_many_24 hl rfl (by omega) (by decide) rfl (fun ls hl => ?_)
          refine r_goto S (tgt := 4) dX0_many_27 (by decide) ?_
          exact ih_lp4 (i + 1) (v + 1) (by omega) (by omega) (by rw [cntI_s]; rw [kindZ_in (by omega) (by omega)] at c18; simp only [Int.toNat_natCast] at c18; split <;> omega) _ _ _ hP hD hS (lv_sub hl [2, 3, 1, 0] rfl)
  exact lp4 _ 0 0 (Nat.lt_succ_self _) (by omega) rfl _ _ _ hP hD hS (lv_sub hl [2, 3, 1, 0] rfl)
set_option maxHeartbeats 4000000 in
set_option maxRecDepth 100000 in
theorem mX0_neighbour (l : Launch) (D : va_G) (cI cJ : ClassId) (Z : Nat → Nat) (sz : Nat) (b : Nat) (ak : Nat) (ah : Nat) (w : Nat) (h : Nat) (K : Nat → Int) (B : Nat → Int) (x : Int) (y : Int) (d : Nat) (hww : 3 ≤ w ∧ w ≤ 10) (hhh : 3 ≤ h ∧ h ≤ 10) (hx : -1000 ≤ x ∧ x ≤ 1000) (hy : -1000 ≤ y ∧ y ≤ 1000) (hd : d < 8) : Met l yX0_neighbour wsX0_neighbour (rmk 1 0 0 22) (va_Pc [.ref b, .int (iI x), .int (iI y), .int (iI ((d : Nat) : Int))] (preW D [(cI, .int), (cJ, .long)] Z [(b, .inr (0, [.int (iI ((w : Nat) : Int)), .int (iI ((h : Nat) : Int)), .ref ak, .ref ah])), (ak, .inl (cI, 100, .inl (aI K))), (ah, .inl (cI, 100, .inl (aI B)))] sz)) (va_Qi (fun (r : Int32) (u : Unit) => r = iI (cellZ w h (x + dX d) (y + dY d))) (fun (u : Unit) t => aftW D [(cI, .int), (cJ, .long)] [(b, .inr (0, [.int (iI ((w : Nat) : Int)), .int (iI ((h : Nat) : Int)), .ref ak, .ref ah])), (ak, .inl (cI, 100, .inl (aI K))), (ah, .inl (cI, 100, .inl (aI B)))] (va_A [(b, .inr (0, [.int (iI ((w : Nat) : Int)), .int (iI ((h : Nat) : Int)), .ref ak, .ref ah])), (ak, .inl (cI, 100, .inl (aI K))), (ah, .inl (cI, 100, .inl (aI B)))] sz) t) (va_A [(b, .inr (0, [.int (iI ((w : Nat) : Int)), .int (iI ((h : Nat) : Int)), .ref ak, .ref ah])), (ak, .inl (cI, 100, .inl (aI K))), (ah, .inl (cI, 100, .inl (aI B)))] sz)) 0 0 (va_A [(b, .inr (0, [.int (iI ((w : Nat) : Int)), .int (iI ((h : Nat) : Int)), .ref ak, .ref ah])), (ak, .inl (cI, 100, .inl (aI K))), (ah, .inl (cI, 100, .inl (aI B)))] sz) := by
  refine m_of (cc := cX0_neighbour) (maxL := 4) (ret := (some .int)) (Qc := fun A => va_Qi (fun (r : Int32) (u : Unit) => r = iI (cellZ w h (x + dX d) (y + dY d))) (fun (u : Unit) t => aftW D [(cI, .int), (cJ, .long)] [(b, .inr (0, [.int (iI ((w : Nat) : Int)), .int (iI ((h : Nat) : Int)), .ref ak, .ref ah])), (ak, .inl (cI, 100, .inl (aI K))), (ah, .inl (cI, 100, .inl (aI B)))] A t) A) RX0 [(0, .ref b), (1, .int (iI x)), (2, .int (iI y)), (3, .int (iI ((d : Nat) : Int)))] (by decide) rfl rfl (Nat.le_of_ble_eq_true rfl) rfl (fun p e s m below meth c A ls Q S hr hlk hnm hAe hsz hP hK hD hA hZ hS hl hQ => ?_)
  have hdx := dX_rng d
  have hdy := dY_rng d
  refine lv_aload_n S.1 S.2.1 dX0_neighbour_0 rfl (lv_at hl 0 rfl) ?_
  refine lv_iload_n S.1 S.2.1 dX0_neighbour_1 rfl (lv_at hl 1 rfl) ?_
  refine r_getsN S (host := "SparkBoards") hZ.1.1 hS (hZ.nest ("SparkBoards$Board", 57, "SparkBoards", "RIGHT", "[I", "SparkBoards") (by decide +kernel) _) dX0_neighbour_2 ?_
  refine lv_iload_n S.1 S.2.1 dX0_neighbour_5 rfl (lv_at hl 3 rfl) ?_
  refine r_ti S hZ.1.2 hS d (rfl) (by omega) (by decide) dX0_neighbour_6 ?_
  refine r_iadd S dX0_neighbour_7 (z := (x + (dX d))) (rfl) ?_
  refine lv_iload_n S.1 S.2.1 dX0_neighbour_8 rfl (lv_at hl 2 rfl) ?_
  refine r_getsN S (host := "SparkBoards") hZ.2.1.1 hS (hZ.nest ("SparkBoards$Board", 60, "SparkBoards", "DOWN", "[I", "SparkBoards") (by decide +kernel) _) dX0_neighbour_9 ?_
  refine lv_iload_n S.1 S.2.1 dX0_neighbour_12 rfl (lv_at hl 3 rfl) ?_
  refine r_ti S hZ.2.1.2 hS d (rfl) (by omega) (by decide) dX0_neighbour_13 ?_
  refine r_iadd S dX0_neighbour_14 (z := (y + (dY d))) (rfl) ?_
  refine k_i (wr := []) (va_runV (As := [.int (iI (x + (dX d))), .int (iI (y + (dY d)))]) (rest := []) S (mX0_cell l D cI cJ Z _ b ak ah w h K B (x + (dX d)) (y + (dY d)) (by first | with_reducible assumption | omega | exact ⟨by omega, by omega⟩ | assumption) (by first | with_reducible assumption | omega | exact ⟨by omega, by omega⟩ | assumption) (by first | with_reducible assumption | omega | exact ⟨by omega, by omega⟩ | assumption) (by first | with_reducible assumption | omega | exact ⟨by omega, by omega⟩ | assumption)) (cwV 2 S.2.2.2.2 gX0_neighbour_X0_cell rfl rfl rfl (by decide +kernel) ⟨Nat.le_of_ble_eq_true rfl, Nat.le_of_ble_eq_true rfl⟩) (preV_of hK hP hD hS hA hZ [0, 1, 2] (by decide) rfl 0 0 rfl rfl) rfl rfl hl.1 rfl (lv_room (Nat.le_of_ble_eq_true rfl)) dX0_neighbour_15 ⟨Nat.le_of_ble_eq_true rfl, Nat.le_of_ble_eq_true rfl⟩) hP hD hS hA [0, 1, 2] [] rfl rfl (by decide) (by decide) [0, 1, 2] (by decide) (fun u => [(b, .inr (0, [.int (iI ((w : Nat) : Int)), .int (iI ((h : Nat) : Int)), .ref ak, .ref ah])), (ak, .inl (cI, 100, .inl (aI K))), (ah, .inl (cI, 100, .inl (aI B)))]) (fun u => rfl) (fun r u H locs hpo hP hD hS => ?_)
  obtain rfl := hpo
  subst hQ
  exact e_iret S hr hlk hS (Nat.le_of_ble_eq_true rfl) (Nat.le_of_ble_eq_true rfl) (u := ()) (rfl) (aft_of hK hP hD) dX0_neighbour_18
set_option maxHeartbeats 4000000 in
set_option maxRecDepth 100000 in
theorem mX0_next (l : Launch) (D : va_G) (cI cJ : ClassId) (Z : Nat → Nat) (sz : Nat) (kd : Int) (hd : Int) (hk : 0 ≤ kd ∧ kd ≤ 3) (hh : inR hd) : Met l yX0_next wsX0_next (rmk 0 0 0 0) (va_Pc [.int (iI kd), .int (iI hd)] (preW D [(cI, .int), (cJ, .long)] Z [] sz)) (va_Qi (fun (r : Int32) (u : Unit) => r = iI (nextZ kd hd)) (fun (u : Unit) t => aftW D [(cI, .int), (cJ, .long)] [] (va_A [] sz) t) (va_A [] sz)) 0 0 (va_A [] sz) := by
  refine m_of (cc := cX0_next) (maxL := 2) (ret := (some .int)) (Qc := fun A => va_Qi (fun (r : Int32) (u : Unit) => r = iI (nextZ kd hd)) (fun (u : Unit) t => aftW D [(cI, .int), (cJ, .long)] [] A t) A) RX0 [(0, .int (iI kd)), (1, .int (iI hd))] (by decide) rfl rfl (Nat.le_of_ble_eq_true rfl) rfl (fun p e s m below meth c A ls Q S hr hlk hnm hAe hsz hP hK hD hA hZ hS hl hQ => ?_)
  refine lv_iload_n S.1 S.2.1 dX0_next_0 rfl (lv_at hl 0 rfl) ?_
  by_cases cs1 : 1 ≤ kd ∧ kd ≤ 3
  · rcases (show kd = 1 ∨ kd = 2 ∨ kd = 3 by omega) with cv | cv | cv
    · refine r_tsIn S (tgt := 32) 0 dX0_next_1 ⟨by omega, by omega⟩ (by omega) (by omega) (by omega) rfl (by decide) ?_
      refine lv_iload_n S.1 S.2.1 dX0_next_32 rfl (lv_at hl 1 rfl) ?_
      refine r_iconst S dX0_next_33 ?_
      refine r_icmp_eq S (tgt := 42) dX0_next_34 (by decide) ⟨by omega, by omega⟩ ⟨by decide, by decide⟩ (fun c34 => ?_) (fun c34 => ?_)
      · refine r_iconst S dX0_next_42 ?_
        refine r_goto S (tgt := 47) dX0_next_43 (by decide) ?_
        subst hQ
        exact e_iret S hr hlk hS (Nat.le_of_ble_eq_true rfl) (Nat.le_of_ble_eq_true rfl) (u := ()) (by first | (rw [cv]; rfl) | (rw [cv, nextZ_c1 (by omega)]) | (rw [cv, nextZ_c0 (by omega)]) | (rw [show kd = 0 by omega]; rfl)) (aft_of hK hP hD) dX0_next_47
      · refine lv_iload_n S.1 S.2.1 dX0_next_37 rfl (lv_at hl 1 rfl) ?_
        refine r_iconst S dX0_next_38 ?_
        refine r_icmp_ne S (tgt := 46) dX0_next_39 (by decide) ⟨by omega, by omega⟩ ⟨by decide, by decide⟩ (fun c39 => ?_) (fun c39 => ?_)
        · refine r_iconst S dX0_next_46 ?_
          subst hQ
          exact e_iret S hr hlk hS (Nat.le_of_ble_eq_true rfl) (Nat.le_of_ble_eq_true rfl) (u := ()) (by first | (rw [cv]; rfl) | (rw [cv, nextZ_c1 (by omega)]) | (rw [cv, nextZ_c0 (by omega)]) | (rw [show kd = 0 by omega]; rfl)) (aft_of hK hP hD) dX0_next_47
        · refine r_iconst S dX0_next_42 ?_
          refine r_goto S (tgt := 47) dX0_next_43 (by decide) ?_
          subst hQ
          exact e_iret S hr hlk hS (Nat.le_of_ble_eq_true rfl) (Nat.le_of_ble_eq_true rfl) (u := ()) (by first | (rw [cv]; rfl) | (rw [cv, nextZ_c1 (by omega)]) | (rw [cv, nextZ_c0 (by omega)]) | (rw [show kd = 0 by omega]; rfl)) (aft_of hK hP hD) dX0_next_47
    · refine r_tsIn S (tgt := 28) 1 dX0_next_1 ⟨by omega, by omega⟩ (by omega) (by omega) (by omega) rfl (by decide) ?_
      refine r_iconst S dX0_next_28 ?_
      subst hQ
      exact e_iret S hr hlk hS (Nat.le_of_ble_eq_true rfl) (Nat.le_of_ble_eq_true rfl) (u := ()) (by first | (rw [cv]; rfl) | (rw [cv, nextZ_c1 (by omega)]) | (rw [cv, nextZ_c0 (by omega)]) | (rw [show kd = 0 by omega]; rfl)) (aft_of hK hP hD) dX0_next_29
    · refine r_tsIn S (tgt := 30) 2 dX0_next_1 ⟨by omega, by omega⟩ (by omega) (by omega) (by omega) rfl (by decide) ?_
      refine r_iconst S dX0_next_30 ?_
      subst hQ
      exact e_iret S hr hlk hS (Nat.le_of_ble_eq_true rfl) (Nat.le_of_ble_eq_true rfl) (u := ()) (by first | (rw [cv]; rfl) | (rw [cv, nextZ_c1 (by omega)]) | (rw [cv, nextZ_c0 (by omega)]) | (rw [show kd = 0 by omega]; rfl)) (aft_of hK hP hD) dX0_next_31
  · refine r_tsOut S (tgt := 48) dX0_next_1 ⟨by omega, by omega⟩ (by omega) (by decide) ?_
    refine r_iconst S dX0_next_48 ?_
    subst hQ
    exact e_iret S hr hlk hS (Nat.le_of_ble_eq_true rfl) (Nat.le_of_ble_eq_true rfl) (u := ()) (by first | (rw [cv]; rfl) | (rw [cv, nextZ_c1 (by omega)]) | (rw [cv, nextZ_c0 (by omega)]) | (rw [show kd = 0 by omega]; rfl)) (aft_of hK hP hD) dX0_next_49
set_option maxHeartbeats 4000000 in
set_option maxRecDepth 100000 in
theorem mX0_headsAround (l : Launch) (D : va_G) (cI cJ : ClassId) (Z : Nat → Nat) (sz : Nat) (b : Nat) (ak : Nat) (ah : Nat) (w : Nat) (h : Nat) (K : Nat → Int) (B : Nat → Int) (x : Int) (y : Int) (hww : 3 ≤ w ∧ w ≤ 10) (hhh : 3 ≤ h ∧ h ≤ 10) (hx : -1000 ≤ x ∧ x ≤ 1000) (hy : -1000 ≤ y ∧ y ≤ 1000) (hKK : okK K) : Met l yX0_headsAround wsX0_headsAround (rmk 2 0 0 45) (va_Pc [.ref b, .int (iI x), .int (iI y)] (preW D [(cI, .int), (cJ, .long)] Z [(b, .inr (0, [.int (iI ((w : Nat) : Int)), .int (iI ((h : Nat) : Int)), .ref ak, .ref ah])), (ak, .inl (cI, 100, .inl (aI K))), (ah, .inl (cI, 100, .inl (aI B)))] sz)) (va_Qi (fun (r : Int32) (u : Unit) => r = iI ((arK w h K x y 2 : Nat) : Int)) (fun (u : Unit) t => aftW D [(cI, .int), (cJ, .long)] [(b, .inr (0, [.int (iI ((w : Nat) : Int)), .int (iI ((h : Nat) : Int)), .ref ak, .ref ah])), (ak, .inl (cI, 100, .inl (aI K))), (ah, .inl (cI, 100, .inl (aI B)))] (va_A [(b, .inr (0, [.int (iI ((w : Nat) : Int)), .int (iI ((h : Nat) : Int)), .ref ak, .ref ah])), (ak, .inl (cI, 100, .inl (aI K))), (ah, .inl (cI, 100, .inl (aI B)))] sz) t) (va_A [(b, .inr (0, [.int (iI ((w : Nat) : Int)), .int (iI ((h : Nat) : Int)), .ref ak, .ref ah])), (ak, .inl (cI, 100, .inl (aI K))), (ah, .inl (cI, 100, .inl (aI B)))] sz)) 0 0 (va_A [(b, .inr (0, [.int (iI ((w : Nat) : Int)), .int (iI ((h : Nat) : Int)), .ref ak, .ref ah])), (ak, .inl (cI, 100, .inl (aI K))), (ah, .inl (cI, 100, .inl (aI B)))] sz) := by
  refine m_of (cc := cX0_headsAround) (maxL := 5) (ret := (some .int)) (Qc := fun A => va_Qi (fun (r : Int32) (u : Unit) => r = iI ((arK w h K x y 2 : Nat) : Int)) (fun (u : Unit) t => aftW D [(cI, .int), (cJ, .long)] [(b, .inr (0, [.int (iI ((w : Nat) : Int)), .int (iI ((h : Nat) : Int)), .ref ak, .ref ah])), (ak, .inl (cI, 100, .inl (aI K))), (ah, .inl (cI, 100, .inl (aI B)))] A t) A) RX0 [(0, .ref b), (1, .int (iI x)), (2, .int (iI y))] (by decide) rfl rfl (Nat.le_of_ble_eq_true rfl) rfl (fun p e s m below meth c A ls Q S hr hlk hnm hAe hsz hP hK hD hA hZ hS hl hQ => ?_)
  refine r_iconst S dX0_headsAround_0 ?_
  refine lv_istore_n (lv' := [(3, .int (iI 0)), (0, .ref b), (1, .int (iI x)), (2, .int (iI y))]) S.1 S.2.1 dX0_headsAround_1 rfl hl (by decide) rfl (fun ls hl => ?_)
  refine r_iconst S dX0_headsAround_2 ?_
  refine lv_istore (lv' := [(4, .int (iI 0)), (3, .int (iI 0)), (0, .ref b), (1, .int (iI x)), (2, .int (iI y))]) S.1 S.2.1 dX0_headsAround_3 hl (by decide) rfl (fun ls hl => ?_)
  have lp5 : ∀ (fu : Nat) (i : Nat) (v : Int), 8 - i < fu → (i ≤ 8) → (v = cntI (fun d => vK w h K (x + dX d) (y + dY d)) 2 i) → ∀ (H : Heap) (locs : List Loc) (ls : Array Slot), va_P D vwCl [(b, .inr (0, [.int (iI ((w : Nat) : Int)), .int (iI ((h : Nat) : Int)), .ref ak, .ref ah])), (ak, .inl (cI, 100, .inl (aI K))), (ah, .inl (cI, 100, .inl (aI B)))] H → va_D A [(b, .inr (0, [.int (iI ((w : Nat) : Int)), .int (iI ((h : Nat) : Int)), .ref ak, .ref ah])), (ak, .inl (cI, 100, .inl (aI K))), (ah, .inl (cI, 100, .inl (aI B)))] → va_S A s.heap H locs → lv_has ls 5 [(0, .ref b), (1, .int (iI x)), (2, .int (iI y)), (3, .int (iI v)), (4, .int (iI ((i : Nat) : Int)))] → W p l e (rmk 2 0 0 45) s m ([.ref b, .int (iI x), .int (iI y)] : List Value).toArray below meth c H locs 0 0 Q (F0 m 5 ls []) := by
    intro fu
    induction fu with
    | zero => intro i v hmu; exact absurd hmu (Nat.not_lt_zero _)
    | succ fu ih_lp5 =>
      intro i v hmu hi hv H locs ls hP hD hS hl
      refine lv_iload S.1 S.2.1 dX0_headsAround_5 (lv_at hl 4 rfl) ?_
      refine r_bipush S dX0_headsAround_7 (by decide) ?_
      refine r_icmp_ge S (tgt := 37) dX0_headsAround_9 (by decide) ⟨by omega, by omega⟩ ⟨by decide, by decide⟩ (fun c9 => ?_) (fun c9 => ?_)
      · refine lv_iload_n S.1 S.2.1 dX0_headsAround_37 rfl (lv_at hl 3 rfl) ?_
        subst hQ
        exact e_iret S hr hlk hS (Nat.le_of_ble_eq_true rfl) (Nat.le_of_ble_eq_true rfl) (u := ()) (by rw [arK, show (8 : Nat) = i by omega, ← hv]) (aft_of hK hP hD) dX0_headsAround_38
      · refine lv_aload_n S.1 S.2.1 dX0_headsAround_12 rfl (lv_at hl 0 rfl) ?_
        refine lv_aload_n S.1 S.2.1 dX0_headsAround_13 rfl (lv_at hl 0 rfl) ?_
        refine lv_iload_n S.1 S.2.1 dX0_headsAround_14 rfl (lv_at hl 1 rfl) ?_
        refine lv_iload_n S.1 S.2.1 dX0_headsAround_15 rfl (lv_at hl 2 rfl) ?_
        refine lv_iload S.1 S.2.1 dX0_headsAround_16 (lv_at hl 4 rfl) ?_
        refine k_i (wr := []) (va_runV (As := [.int (iI x), .int (iI y), .int (iI ((i : Nat) : Int))]) (rest := [.ref b]) S (mX0_neighbour l D cI cJ Z _ b ak ah w h K B x y i (by first | with_reducible assumption | omega | exact ⟨by omega, by omega⟩ | assumption) (by first | with_reducible assumption | omega | exact ⟨by omega, by omega⟩ | assumption) (by first | with_reducible assumption | omega | exact ⟨by omega, by omega⟩ | assumption) (by first | with_reducible assumption | omega | exact ⟨by omega, by omega⟩ | assumption) (by first | with_reducible assumption | omega | exact ⟨by omega, by omega⟩ | assumption)) (cwV 3 S.2.2.2.2 gX0_headsAround_X0_neighbour rfl rfl rfl (by decide +kernel) ⟨Nat.le_of_ble_eq_true rfl, Nat.le_of_ble_eq_true rfl⟩) (preV_of hK hP hD hS hA hZ [0, 1, 2] (by decide) rfl 0 0 rfl rfl) rfl rfl hl.1 rfl (lv_room (Nat.le_of_ble_eq_true rfl)) dX0_headsAround_18 ⟨Nat.le_of_ble_eq_true rfl, Nat.le_of_ble_eq_true rfl⟩) hP hD hS hA [0, 1, 2] [] rfl rfl (by decide) (by decide) [0, 1, 2] (by decide) (fun u => [(b, .inr (0, [.int (iI ((w : Nat) : Int)), .int (iI ((h : Nat) : Int)), .ref ak, .ref ah])), (ak, .inl (cI, 100, .inl (aI K))), (ah, .inl (cI, 100, .inl (aI B)))]) (fun u => rfl) (fun r u H locs hpo hP hD hS => ?_)
        obtain rfl := hpo
        have hcr := cellZ_100 hww hhh (x + dX i) (y + dY i)
        refine k_i (wr := []) (va_runV (As := [.int (iI (cellZ w h (x + dX i) (y + dY i)))]) (rest := []) S (mX0_kind l D cI cJ Z _ b ak ah w h K B (cellZ w h (x + dX i) (y + dY i)) (by first | with_reducible assumption | omega | exact ⟨by omega, by omega⟩ | assumption) (by first | with_reducible assumption | omega | exact ⟨by omega, by omega⟩ | assumption) (by first | with_reducible assumption | omega | exact ⟨by omega, by omega⟩ | assumption)) (cwV 1 S.2.2.2.2 gX0_headsAround_X0_kind rfl rfl rfl (by decide +kernel) ⟨Nat.le_of_ble_eq_true rfl, Nat.le_of_ble_eq_true rfl⟩) (preV_of hK hP hD hS hA hZ [0, 1, 2] (by decide) rfl 0 0 rfl rfl) rfl rfl hl.1 rfl (lv_room (Nat.le_of_ble_eq_true rfl)) dX0_headsAround_21 ⟨Nat.le_of_ble_eq_true rfl, Nat.le_of_ble_eq_true rfl⟩) hP hD hS hA [0, 1, 2] [] rfl rfl (by decide) (by decide) [0, 1, 2] (by decide) (fun u => [(b, .inr (0, [.int (iI ((w : Nat) : Int)), .int (iI ((h : Nat) : Int)), .ref ak, .ref ah])), (ak, .inl (cI, 100, .inl (aI K))), (ah, .inl (cI, 100, .inl (aI B)))]) (fun u => rfl) (fun r u H locs hpo hP hD hS => ?_)
        obtain rfl := hpo
        have hkr := kindZ_rng hKK (cellZ w h (x + dX i) (y + dY i))
        refine r_iconst S dX0_headsAround_24 ?_
        refine r_icmp_ne S (tgt := 31) dX0_headsAround_25 (by decide) ⟨by omega, by omega⟩ ⟨by decide, by decide⟩ (fun c25 => ?_) (fun c25 => ?_)
        · refine r_iinc S (z := ((i + 1 : Nat) : Int)) (k0 := 4) (lv' := [(4, .int (iI ((i + 1 : Nat) : Int))), (0, .ref b), (1, .int (iI x)), (2, .int (iI y)), (3, .int (iI v))]) dX0_headsAround_31 hl rfl (by omega) (by decide) rfl (fun ls hl => ?_)
          refine r_goto S (tgt := 5) dX0_headsAround_34 (by decide) ?_
          exact ih_lp5 (i + 1) v (by omega) (by omega) (by first | (rw [cntI_t (by exact c25)]; omega) | (rw [cntI_f (by exact c25)]; omega)) _ _ _ hP hD hS (lv_sub hl [1, 2, 3, 4, 0] rfl)
        · refine r_iinc S (z := (v + 1)) (k0 := 3) (lv' := [(3, .int (iI (v + 1))), (0, .ref b), (1, .int (iI x)), (2, .int (iI y)), (4, .int (iI ((i : Nat) : Int)))]) dX0_headsAround_28 hl rfl (rfl) (by decide) rfl (fun ls hl => ?_)
          refine r_iinc S (z := ((i + 1 : Nat) : Int)) (k0 := 4) (lv' := [(4, .int (iI ((i + 1 : Nat) : Int))), (3, .int (iI (v + 1))), (0, .ref b), (1, .int (iI x)), (2, .int (iI y))]) dX0_headsAround_31 hl rfl (by omega) (by decide) rfl (fun ls hl => ?_)
          refine r_goto S (tgt := 5) dX0_headsAround_34 (by decide) ?_
          exact ih_lp5 (i + 1) (v + 1) (by omega) (by omega) (by first | (rw [cntI_t (by exact c25)]; omega) | (rw [cntI_f (by exact c25)]; omega)) _ _ _ hP hD hS (lv_sub hl [2, 3, 4, 1, 0] rfl)
  exact lp5 _ 0 0 (Nat.lt_succ_self _) (by omega) rfl _ _ _ hP hD hS (lv_sub hl [2, 3, 4, 1, 0] rfl)
set_option maxHeartbeats 4000000 in
set_option maxRecDepth 100000 in
theorem mX0_wiredAround (l : Launch) (D : va_G) (cI cJ : ClassId) (Z : Nat → Nat) (sz : Nat) (b : Nat) (ak : Nat) (ah : Nat) (w : Nat) (h : Nat) (K : Nat → Int) (B : Nat → Int) (x : Int) (y : Int) (hww : 3 ≤ w ∧ w ≤ 10) (hhh : 3 ≤ h ∧ h ≤ 10) (hx : -1000 ≤ x ∧ x ≤ 1000) (hy : -1000 ≤ y ∧ y ≤ 1000) (hKK : okK K) : Met l yX0_wiredAround wsX0_wiredAround (rmk 2 0 0 45) (va_Pc [.ref b, .int (iI x), .int (iI y)] (preW D [(cI, .int), (cJ, .long)] Z [(b, .inr (0, [.int (iI ((w : Nat) : Int)), .int (iI ((h : Nat) : Int)), .ref ak, .ref ah])), (ak, .inl (cI, 100, .inl (aI K))), (ah, .inl (cI, 100, .inl (aI B)))] sz)) (va_Qi (fun (r : Int32) (u : Unit) => r = iI ((wiK w h K x y : Nat) : Int)) (fun (u : Unit) t => aftW D [(cI, .int), (cJ, .long)] [(b, .inr (0, [.int (iI ((w : Nat) : Int)), .int (iI ((h : Nat) : Int)), .ref ak, .ref ah])), (ak, .inl (cI, 100, .inl (aI K))), (ah, .inl (cI, 100, .inl (aI B)))] (va_A [(b, .inr (0, [.int (iI ((w : Nat) : Int)), .int (iI ((h : Nat) : Int)), .ref ak, .ref ah])), (ak, .inl (cI, 100, .inl (aI K))), (ah, .inl (cI, 100, .inl (aI B)))] sz) t) (va_A [(b, .inr (0, [.int (iI ((w : Nat) : Int)), .int (iI ((h : Nat) : Int)), .ref ak, .ref ah])), (ak, .inl (cI, 100, .inl (aI K))), (ah, .inl (cI, 100, .inl (aI B)))] sz)) 0 0 (va_A [(b, .inr (0, [.int (iI ((w : Nat) : Int)), .int (iI ((h : Nat) : Int)), .ref ak, .ref ah])), (ak, .inl (cI, 100, .inl (aI K))), (ah, .inl (cI, 100, .inl (aI B)))] sz) := by
  refine m_of (cc := cX0_wiredAround) (maxL := 5) (ret := (some .int)) (Qc := fun A => va_Qi (fun (r : Int32) (u : Unit) => r = iI ((wiK w h K x y : Nat) : Int)) (fun (u : Unit) t => aftW D [(cI, .int), (cJ, .long)] [(b, .inr (0, [.int (iI ((w : Nat) : Int)), .int (iI ((h : Nat) : Int)), .ref ak, .ref ah])), (ak, .inl (cI, 100, .inl (aI K))), (ah, .inl (cI, 100, .inl (aI B)))] A t) A) RX0 [(0, .ref b), (1, .int (iI x)), (2, .int (iI y))] (by decide) rfl rfl (Nat.le_of_ble_eq_true rfl) rfl (fun p e s m below meth c A ls Q S hr hlk hnm hAe hsz hP hK hD hA hZ hS hl hQ => ?_)
  refine r_iconst S dX0_wiredAround_0 ?_
  refine lv_istore_n (lv' := [(3, .int (iI 0)), (0, .ref b), (1, .int (iI x)), (2, .int (iI y))]) S.1 S.2.1 dX0_wiredAround_1 rfl hl (by decide) rfl (fun ls hl => ?_)
  refine r_iconst S dX0_wiredAround_2 ?_
  refine lv_istore (lv' := [(4, .int (iI 0)), (3, .int (iI 0)), (0, .ref b), (1, .int (iI x)), (2, .int (iI y))]) S.1 S.2.1 dX0_wiredAround_3 hl (by decide) rfl (fun ls hl => ?_)
  have lp5 : ∀ (fu : Nat) (i : Nat) (v : Int), 8 - i < fu → (i ≤ 8) → (v = cntN (fun d => vK w h K (x + dX d) (y + dY d)) 0 i) → ∀ (H : Heap) (locs : List Loc) (ls : Array Slot), va_P D vwCl [(b, .inr (0, [.int (iI ((w : Nat) : Int)), .int (iI ((h : Nat) : Int)), .ref ak, .ref ah])), (ak, .inl (cI, 100, .inl (aI K))), (ah, .inl (cI, 100, .inl (aI B)))] H → va_D A [(b, .inr (0, [.int (iI ((w : Nat) : Int)), .int (iI ((h : Nat) : Int)), .ref ak, .ref ah])), (ak, .inl (cI, 100, .inl (aI K))), (ah, .inl (cI, 100, .inl (aI B)))] → va_S A s.heap H locs → lv_has ls 5 [(0, .ref b), (1, .int (iI x)), (2, .int (iI y)), (3, .int (iI v)), (4, .int (iI ((i : Nat) : Int)))] → W p l e (rmk 2 0 0 45) s m ([.ref b, .int (iI x), .int (iI y)] : List Value).toArray below meth c H locs 0 0 Q (F0 m 5 ls []) := by
    intro fu
    induction fu with
    | zero => intro i v hmu; exact absurd hmu (Nat.not_lt_zero _)
    | succ fu ih_lp5 =>
      intro i v hmu hi hv H locs ls hP hD hS hl
      refine lv_iload S.1 S.2.1 dX0_wiredAround_5 (lv_at hl 4 rfl) ?_
      refine r_bipush S dX0_wiredAround_7 (by decide) ?_
      refine r_icmp_ge S (tgt := 36) dX0_wiredAround_9 (by decide) ⟨by omega, by omega⟩ ⟨by decide, by decide⟩ (fun c9 => ?_) (fun c9 => ?_)
      · refine lv_iload_n S.1 S.2.1 dX0_wiredAround_36 rfl (lv_at hl 3 rfl) ?_
        subst hQ
        exact e_iret S hr hlk hS (Nat.le_of_ble_eq_true rfl) (Nat.le_of_ble_eq_true rfl) (u := ()) (by rw [wiK, show (8 : Nat) = i by omega, ← hv]) (aft_of hK hP hD) dX0_wiredAround_37
      · refine lv_aload_n S.1 S.2.1 dX0_wiredAround_12 rfl (lv_at hl 0 rfl) ?_
        refine lv_aload_n S.1 S.2.1 dX0_wiredAround_13 rfl (lv_at hl 0 rfl) ?_
        refine lv_iload_n S.1 S.2.1 dX0_wiredAround_14 rfl (lv_at hl 1 rfl) ?_
        refine lv_iload_n S.1 S.2.1 dX0_wiredAround_15 rfl (lv_at hl 2 rfl) ?_
        refine lv_iload S.1 S.2.1 dX0_wiredAround_16 (lv_at hl 4 rfl) ?_
        refine k_i (wr := []) (va_runV (As := [.int (iI x), .int (iI y), .int (iI ((i : Nat) : Int))]) (rest := [.ref b]) S (mX0_neighbour l D cI cJ Z _ b ak ah w h K B x y i (by first | with_reducible assumption | omega | exact ⟨by omega, by omega⟩ | assumption) (by first | with_reducible assumption | omega | exact ⟨by omega, by omega⟩ | assumption) (by first | with_reducible assumption | omega | exact ⟨by omega, by omega⟩ | assumption) (by first | with_reducible assumption | omega | exact ⟨by omega, by omega⟩ | assumption) (by first | with_reducible assumption | omega | exact ⟨by omega, by omega⟩ | assumption)) (cwV 3 S.2.2.2.2 gX0_wiredAround_X0_neighbour rfl rfl rfl (by decide +kernel) ⟨Nat.le_of_ble_eq_true rfl, Nat.le_of_ble_eq_true rfl⟩) (preV_of hK hP hD hS hA hZ [0, 1, 2] (by decide) rfl 0 0 rfl rfl) rfl rfl hl.1 rfl (lv_room (Nat.le_of_ble_eq_true rfl)) dX0_wiredAround_18 ⟨Nat.le_of_ble_eq_true rfl, Nat.le_of_ble_eq_true rfl⟩) hP hD hS hA [0, 1, 2] [] rfl rfl (by decide) (by decide) [0, 1, 2] (by decide) (fun u => [(b, .inr (0, [.int (iI ((w : Nat) : Int)), .int (iI ((h : Nat) : Int)), .ref ak, .ref ah])), (ak, .inl (cI, 100, .inl (aI K))), (ah, .inl (cI, 100, .inl (aI B)))]) (fun u => rfl) (fun r u H locs hpo hP hD hS => ?_)
        obtain rfl := hpo
        have hcr := cellZ_100 hww hhh (x + dX i) (y + dY i)
        refine k_i (wr := []) (va_runV (As := [.int (iI (cellZ w h (x + dX i) (y + dY i)))]) (rest := []) S (mX0_kind l D cI cJ Z _ b ak ah w h K B (cellZ w h (x + dX i) (y + dY i)) (by first | with_reducible assumption | omega | exact ⟨by omega, by omega⟩ | assumption) (by first | with_reducible assumption | omega | exact ⟨by omega, by omega⟩ | assumption) (by first | with_reducible assumption | omega | exact ⟨by omega, by omega⟩ | assumption)) (cwV 1 S.2.2.2.2 gX0_wiredAround_X0_kind rfl rfl rfl (by decide +kernel) ⟨Nat.le_of_ble_eq_true rfl, Nat.le_of_ble_eq_true rfl⟩) (preV_of hK hP hD hS hA hZ [0, 1, 2] (by decide) rfl 0 0 rfl rfl) rfl rfl hl.1 rfl (lv_room (Nat.le_of_ble_eq_true rfl)) dX0_wiredAround_21 ⟨Nat.le_of_ble_eq_true rfl, Nat.le_of_ble_eq_true rfl⟩) hP hD hS hA [0, 1, 2] [] rfl rfl (by decide) (by decide) [0, 1, 2] (by decide) (fun u => [(b, .inr (0, [.int (iI ((w : Nat) : Int)), .int (iI ((h : Nat) : Int)), .ref ak, .ref ah])), (ak, .inl (cI, 100, .inl (aI K))), (ah, .inl (cI, 100, .inl (aI B)))]) (fun u => rfl) (fun r u H locs hpo hP hD hS => ?_)
        obtain rfl := hpo
        have hkr := kindZ_rng hKK (cellZ w h (x + dX i) (y + dY i))
        refine r_if_eq S (tgt := 30) dX0_wiredAround_24 (by decide) ⟨by omega, by omega⟩ (fun c24 => ?_) (fun c24 => ?_)
        · refine r_iinc S (z := ((i + 1 : Nat) : Int)) (k0 := 4) (lv' := [(4, .int (iI ((i + 1 : Nat) : Int))), (0, .ref b), (1, .int (iI x)), (2, .int (iI y)), (3, .int (iI v))]) dX0_wiredAround_30 hl rfl (by omega) (by decide) rfl (fun ls hl => ?_)
          refine r_goto S (tgt := 5) dX0_wiredAround_33 (by decide) ?_
          exact ih_lp5 (i + 1) v (by omega) (by omega) (by first | (rw [cntN_t (by exact c24)]; omega) | (rw [cntN_f (by exact c24)]; omega)) _ _ _ hP hD hS (lv_sub hl [1, 2, 3, 4, 0] rfl)
        · refine r_iinc S (z := (v + 1)) (k0 := 3) (lv' := [(3, .int (iI (v + 1))), (0, .ref b), (1, .int (iI x)), (2, .int (iI y)), (4, .int (iI ((i : Nat) : Int)))]) dX0_wiredAround_27 hl rfl (rfl) (by decide) rfl (fun ls hl => ?_)
          refine r_iinc S (z := ((i + 1 : Nat) : Int)) (k0 := 4) (lv' := [(4, .int (iI ((i + 1 : Nat) : Int))), (3, .int (iI (v + 1))), (0, .ref b), (1, .int (iI x)), (2, .int (iI y))]) dX0_wiredAround_30 hl rfl (by omega) (by decide) rfl (fun ls hl => ?_)
          refine r_goto S (tgt := 5) dX0_wiredAround_33 (by decide) ?_
          exact ih_lp5 (i + 1) (v + 1) (by omega) (by omega) (by first | (rw [cntN_t (by exact c24)]; omega) | (rw [cntN_f (by exact c24)]; omega)) _ _ _ hP hD hS (lv_sub hl [2, 3, 4, 1, 0] rfl)
  exact lp5 _ 0 0 (Nat.lt_succ_self _) (by omega) rfl _ _ _ hP hD hS (lv_sub hl [2, 3, 4, 1, 0] rfl)
set_option maxHeartbeats 4000000 in
set_option maxRecDepth 100000 in
theorem mJ7_fill_53178 (l : Launch) (D : va_G) (cI cJ : ClassId) (Z : Nat → Nat) (sz : Nat) (a : Nat) (F : Nat → Int) (v : Int) : Met l yJ7_fill_53178 wsJ7_fill_53178 (rmk 0 0 0 0) (va_Pc [.ref a, .int (iI v)] (preW D [(cI, .int), (cJ, .long)] Z [(a, .inl (cI, 100, .inl (aI F)))] sz)) (va_Qv (fun (u : (Nat → Int)) => u = fillZ F v 100) (fun (u : (Nat → Int)) t => aftW D [(cI, .int), (cJ, .long)] [(a, .inl (cI, 100, .inl (aI u)))] (va_A [(a, .inl (cI, 100, .inl (aI F)))] sz) t) (va_A [(a, .inl (cI, 100, .inl (aI F)))] sz)) 0 0 (va_A [(a, .inl (cI, 100, .inl (aI F)))] sz) := by
  refine m_of (cc := cJ7_fill_53178) (maxL := 4) (ret := none) (Qc := fun A => va_Qv (fun (u : (Nat → Int)) => u = fillZ F v 100) (fun (u : (Nat → Int)) t => aftW D [(cI, .int), (cJ, .long)] [(a, .inl (cI, 100, .inl (aI u)))] A t) A) RJ7 [(0, .ref a), (1, .int (iI v))] (by decide) rfl rfl (Nat.le_of_ble_eq_true rfl) rfl (fun p e s m below meth c A ls Q S hr hlk hnm hAe hsz hP hK hD hA hZ hS hl hQ => ?_)
  refine r_iconst S dJ7_fill_53178_0 ?_
  refine lv_istore_n (lv' := [(2, .int (iI 0)), (0, .ref a), (1, .int (iI v))]) S.1 S.2.1 dJ7_fill_53178_1 rfl hl (by decide) rfl (fun ls hl => ?_)
  refine lv_aload_n S.1 S.2.1 dJ7_fill_53178_2 rfl (lv_at hl 1 rfl) ?_
  refine r_alen S hK hP 0 0 rfl rfl dJ7_fill_53178_3 ?_
  refine lv_istore_n (lv' := [(3, .int (iI 100)), (2, .int (iI 0)), (0, .ref a), (1, .int (iI v))]) S.1 S.2.1 dJ7_fill_53178_4 rfl hl (by decide) rfl (fun ls hl => ?_)
  have lp5 : ∀ (fu : Nat) (i : Nat) (F2 : Nat → Int), 100 - i < fu → (i ≤ 100) → (F2 = fillZ F v i) → ∀ (H : Heap) (locs : List Loc) (ls : Array Slot), va_P D vwCl [(a, .inl (cI, 100, .inl (aI F2)))] H → va_D A [(a, .inl (cI, 100, .inl (aI F2)))] → va_S A s.heap H locs → lv_has ls 4 [(0, .ref a), (1, .int (iI v)), (2, .int (iI ((i : Nat) : Int))), (3, .int (iI 100))] → W p l e (rmk 0 0 0 0) s m ([.ref a, .int (iI v)] : List Value).toArray below meth c H locs 0 0 Q (F0 m 5 ls []) := by
    intro fu
    induction fu with
    | zero => intro i F2 hmu; exact absurd hmu (Nat.not_lt_zero _)
    | succ fu ih_lp5 =>
      intro i F2 hmu hi hF H locs ls hP hD hS hl
      refine lv_iload_n S.1 S.2.1 dJ7_fill_53178_5 rfl (lv_at hl 2 rfl) ?_
      refine lv_iload_n S.1 S.2.1 dJ7_fill_53178_6 rfl (lv_at hl 3 rfl) ?_
      refine r_icmp_ge S (tgt := 20) dJ7_fill_53178_7 (by decide) ⟨by omega, by omega⟩ ⟨by decide, by decide⟩ (fun c7 => ?_) (fun c7 => ?_)
      · subst hQ
        exact e_vret S hr hlk hS (Nat.le_of_ble_eq_true rfl) (Nat.le_of_ble_eq_true rfl) (u := F2) (by rw [hF, show i = 100 by omega]) (aft_of hK hP hD) dJ7_fill_53178_20
      · refine lv_aload_n S.1 S.2.1 dJ7_fill_53178_10 rfl (lv_at hl 0 rfl) ?_
        refine lv_iload_n S.1 S.2.1 dJ7_fill_53178_11 rfl (lv_at hl 2 rfl) ?_
        refine lv_iload_n S.1 S.2.1 dJ7_fill_53178_12 rfl (lv_at hl 1 rfl) ?_
        refine r_iast S hK hP hD hS 0 0 rfl rfl i (rfl) (by omega) (by decide) dJ7_fill_53178_13 [(a, .inl (cI, 100, .inl (aI (upZ F2 i v))))] rfl (fun H locs hP hD hS => ?_)
        refine r_iinc S (z := ((i + 1 : Nat) : Int)) (k0 := 2) (lv' := [(2, .int (iI ((i + 1 : Nat) : Int))), (0, .ref a), (1, .int (iI v)), (3, .int (iI 100))]) dJ7_fill_53178_14 hl rfl (by omega) (by decide) rfl (fun ls hl => ?_)
        refine r_goto S (tgt := 5) dJ7_fill_53178_17 (by decide) ?_
        exact ih_lp5 (i + 1) (upZ F2 i v) (by omega) (by omega) (by rw [hF, fillZ_s]) _ _ _ hP hD hS (lv_sub hl [1, 2, 0, 3] rfl)
  exact lp5 _ 0 F (Nat.lt_succ_self _) (by omega) ((fillZ_0 F v).symm) _ _ _ hP hD hS (lv_sub hl [2, 3, 1, 0] rfl)
set_option maxHeartbeats 4000000 in
set_option maxRecDepth 100000 in
theorem mX0_clear (l : Launch) (D : va_G) (cI cJ : ClassId) (Z : Nat → Nat) (sz : Nat) (b : Nat) (ak : Nat) (ah : Nat) (w : Nat) (h : Nat) (K : Nat → Int) (B : Nat → Int) (w0 : Nat) (h0 : Nat) (hww : 3 ≤ w ∧ w ≤ 10) (hhh : 3 ≤ h ∧ h ≤ 10) : Met l yX0_clear wsX0_clear (rmk 1 0 0 23) (va_Pc [.ref b, .int (iI ((w0 : Nat) : Int)), .int (iI ((h0 : Nat) : Int))] (preW D [(cI, .int), (cJ, .long)] Z [(b, .inr (0, [.int (iI ((w : Nat) : Int)), .int (iI ((h : Nat) : Int)), .ref ak, .ref ah])), (ak, .inl (cI, 100, .inl (aI K))), (ah, .inl (cI, 100, .inl (aI B)))] sz)) (va_Qv (fun (u : Unit) => True) (fun (u : Unit) t => aftW D [(cI, .int), (cJ, .long)] [(b, .inr (0, [.int (iI ((w0 : Nat) : Int)), .int (iI ((h0 : Nat) : Int)), .ref ak, .ref ah])), (ak, .inl (cI, 100, .inl (aI (fillZ K 0 100)))), (ah, .inl (cI, 100, .inl (aI B)))] (va_A [(b, .inr (0, [.int (iI ((w : Nat) : Int)), .int (iI ((h : Nat) : Int)), .ref ak, .ref ah])), (ak, .inl (cI, 100, .inl (aI K))), (ah, .inl (cI, 100, .inl (aI B)))] sz) t) (va_A [(b, .inr (0, [.int (iI ((w : Nat) : Int)), .int (iI ((h : Nat) : Int)), .ref ak, .ref ah])), (ak, .inl (cI, 100, .inl (aI K))), (ah, .inl (cI, 100, .inl (aI B)))] sz)) 0 0 (va_A [(b, .inr (0, [.int (iI ((w : Nat) : Int)), .int (iI ((h : Nat) : Int)), .ref ak, .ref ah])), (ak, .inl (cI, 100, .inl (aI K))), (ah, .inl (cI, 100, .inl (aI B)))] sz) := by
  refine m_of (cc := cX0_clear) (maxL := 3) (ret := none) (Qc := fun A => va_Qv (fun (u : Unit) => True) (fun (u : Unit) t => aftW D [(cI, .int), (cJ, .long)] [(b, .inr (0, [.int (iI ((w0 : Nat) : Int)), .int (iI ((h0 : Nat) : Int)), .ref ak, .ref ah])), (ak, .inl (cI, 100, .inl (aI (fillZ K 0 100)))), (ah, .inl (cI, 100, .inl (aI B)))] A t) A) RX0 [(0, .ref b), (1, .int (iI ((w0 : Nat) : Int))), (2, .int (iI ((h0 : Nat) : Int)))] (by decide) rfl rfl (Nat.le_of_ble_eq_true rfl) rfl (fun p e s m below meth c A ls Q S hr hlk hnm hAe hsz hP hK hD hA hZ hS hl hQ => ?_)
  have hi0 : ∀ w ∈ u_ws RX0 TX0 4, w ∈ wsX0_clear := by decide +kernel
  refine lv_aload_n S.1 S.2.1 dX0_clear_0 rfl (lv_at hl 0 rfl) ?_
  refine lv_iload_n S.1 S.2.1 dX0_clear_1 rfl (lv_at hl 1 rfl) ?_
  refine r_put S hi0 tyX0 tyX0_ok nmX0 hK hP hD hS 0 rfl rfl 0 (by decide) (by decide +kernel) rfl rfl (ty := .int) (v := .int (iI ((w0 : Nat) : Int))) (by decide +kernel) rfl rfl (by simp) dX0_clear_2 [(b, .inr (0, [.int (iI ((w0 : Nat) : Int)), .int (iI ((h : Nat) : Int)), .ref ak, .ref ah])), (ak, .inl (cI, 100, .inl (aI K))), (ah, .inl (cI, 100, .inl (aI B)))] rfl (fun H locs hP hD hS => ?_)
  refine lv_aload_n S.1 S.2.1 dX0_clear_5 rfl (lv_at hl 0 rfl) ?_
  refine lv_iload_n S.1 S.2.1 dX0_clear_6 rfl (lv_at hl 2 rfl) ?_
  refine r_put S hi0 tyX0 tyX0_ok nmX0 hK hP hD hS 0 rfl rfl 1 (by decide) (by decide +kernel) rfl rfl (ty := .int) (v := .int (iI ((h0 : Nat) : Int))) (by decide +kernel) rfl rfl (by simp) dX0_clear_7 [(b, .inr (0, [.int (iI ((w0 : Nat) : Int)), .int (iI ((h0 : Nat) : Int)), .ref ak, .ref ah])), (ak, .inl (cI, 100, .inl (aI K))), (ah, .inl (cI, 100, .inl (aI B)))] rfl (fun H locs hP hD hS => ?_)
  refine lv_aload_n S.1 S.2.1 dX0_clear_10 rfl (lv_at hl 0 rfl) ?_
  refine r_get S hi0 hK hP 0 rfl rfl 2 (by decide) (by decide +kernel) rfl rfl dX0_clear_11 ?_
  refine r_iconst S dX0_clear_14 ?_
  refine k_v (wr := [(b, .inr (0, [.int (iI ((w0 : Nat) : Int)), .int (iI ((h0 : Nat) : Int)), .ref ak, .ref ah])), (ah, .inl (cI, 100, .inl (aI B)))]) (va_runS (As := [.ref ak, .int (iI 0)]) (rest := []) S (mJ7_fill_53178 l D cI cJ Z _ ak K 0 ) (va_cwS 2 S.2.2.2.2 gX0_clear_J7_fill_53178 rfl rfl rfl (by decide +kernel) ⟨Nat.le_of_ble_eq_true rfl, Nat.le_of_ble_eq_true rfl⟩) (preS_of hK hP hD hS hA hZ [1] (by decide) rfl) rfl rfl hl.1 rfl (lv_room (Nat.le_of_ble_eq_true rfl)) dX0_clear_15 ⟨Nat.le_of_ble_eq_true rfl, Nat.le_of_ble_eq_true rfl⟩) hP hD hS hA [1] [0, 2] rfl rfl (by decide) (by decide) [0, 2, 1] (by decide) (fun u => [(b, .inr (0, [.int (iI ((w0 : Nat) : Int)), .int (iI ((h0 : Nat) : Int)), .ref ak, .ref ah])), (ak, .inl (cI, 100, .inl (aI u))), (ah, .inl (cI, 100, .inl (aI B)))]) (fun u => rfl) (fun u H locs hpo hP hD hS => ?_)
  generalize u = F1_1 at hpo hP hD
  try dsimp only at hpo
  have hP : va_P D vwCl [(b, .inr (0, [.int (iI ((w0 : Nat) : Int)), .int (iI ((h0 : Nat) : Int)), .ref ak, .ref ah])), (ak, .inl (cI, 100, .inl (aI F1_1))), (ah, .inl (cI, 100, .inl (aI B)))] _ := hP
  have hD : va_D A [(b, .inr (0, [.int (iI ((w0 : Nat) : Int)), .int (iI ((h0 : Nat) : Int)), .ref ak, .ref ah])), (ak, .inl (cI, 100, .inl (aI F1_1))), (ah, .inl (cI, 100, .inl (aI B)))] := hD
  have e_F1_1 := hpo
  subst e_F1_1
  subst hQ
  exact e_vret S hr hlk hS (Nat.le_of_ble_eq_true rfl) (Nat.le_of_ble_eq_true rfl) (u := ()) (trivial) (aft_of hK hP hD) dX0_clear_18
set_option maxHeartbeats 4000000 in
set_option maxRecDepth 100000 in
theorem mX0_copy (l : Launch) (D : va_G) (cI cJ : ClassId) (Z : Nat → Nat) (sz : Nat) (b : Nat) (ak : Nat) (ah : Nat) (w : Nat) (h : Nat) (K : Nat → Int) (B : Nat → Int) (b2 : Nat) (ak2 : Nat) (ah2 : Nat) (w2 : Nat) (h2 : Nat) (K2 : Nat → Int) (B2 : Nat → Int) : Met l yX0_copy wsX0_copy (rmk 1 0 0 40) (va_Pc [.ref b, .ref b2] (preW D [(cI, .int), (cJ, .long)] Z [(b, .inr (0, [.int (iI ((w : Nat) : Int)), .int (iI ((h : Nat) : Int)), .ref ak, .ref ah])), (ak, .inl (cI, 100, .inl (aI K))), (ah, .inl (cI, 100, .inl (aI B))), (b2, .inr (0, [.int (iI ((w2 : Nat) : Int)), .int (iI ((h2 : Nat) : Int)), .ref ak2, .ref ah2])), (ak2, .inl (cI, 100, .inl (aI K2))), (ah2, .inl (cI, 100, .inl (aI B2)))] sz)) (va_Qv (fun (u : (Nat → Int)) => u = cpyZ K2 K 100) (fun (u : (Nat → Int)) t => aftW D [(cI, .int), (cJ, .long)] [(b, .inr (0, [.int (iI ((w2 : Nat) : Int)), .int (iI ((h2 : Nat) : Int)), .ref ak, .ref ah])), (ak, .inl (cI, 100, .inl (aI u))), (ah, .inl (cI, 100, .inl (aI B))), (b2, .inr (0, [.int (iI ((w2 : Nat) : Int)), .int (iI ((h2 : Nat) : Int)), .ref ak2, .ref ah2])), (ak2, .inl (cI, 100, .inl (aI K2))), (ah2, .inl (cI, 100, .inl (aI B2)))] (va_A [(b, .inr (0, [.int (iI ((w : Nat) : Int)), .int (iI ((h : Nat) : Int)), .ref ak, .ref ah])), (ak, .inl (cI, 100, .inl (aI K))), (ah, .inl (cI, 100, .inl (aI B))), (b2, .inr (0, [.int (iI ((w2 : Nat) : Int)), .int (iI ((h2 : Nat) : Int)), .ref ak2, .ref ah2])), (ak2, .inl (cI, 100, .inl (aI K2))), (ah2, .inl (cI, 100, .inl (aI B2)))] sz) t) (va_A [(b, .inr (0, [.int (iI ((w : Nat) : Int)), .int (iI ((h : Nat) : Int)), .ref ak, .ref ah])), (ak, .inl (cI, 100, .inl (aI K))), (ah, .inl (cI, 100, .inl (aI B))), (b2, .inr (0, [.int (iI ((w2 : Nat) : Int)), .int (iI ((h2 : Nat) : Int)), .ref ak2, .ref ah2])), (ak2, .inl (cI, 100, .inl (aI K2))), (ah2, .inl (cI, 100, .inl (aI B2)))] sz)) 0 0 (va_A [(b, .inr (0, [.int (iI ((w : Nat) : Int)), .int (iI ((h : Nat) : Int)), .ref ak, .ref ah])), (ak, .inl (cI, 100, .inl (aI K))), (ah, .inl (cI, 100, .inl (aI B))), (b2, .inr (0, [.int (iI ((w2 : Nat) : Int)), .int (iI ((h2 : Nat) : Int)), .ref ak2, .ref ah2])), (ak2, .inl (cI, 100, .inl (aI K2))), (ah2, .inl (cI, 100, .inl (aI B2)))] sz) := by
  refine m_of (cc := cX0_copy) (maxL := 2) (ret := none) (Qc := fun A => va_Qv (fun (u : (Nat → Int)) => u = cpyZ K2 K 100) (fun (u : (Nat → Int)) t => aftW D [(cI, .int), (cJ, .long)] [(b, .inr (0, [.int (iI ((w2 : Nat) : Int)), .int (iI ((h2 : Nat) : Int)), .ref ak, .ref ah])), (ak, .inl (cI, 100, .inl (aI u))), (ah, .inl (cI, 100, .inl (aI B))), (b2, .inr (0, [.int (iI ((w2 : Nat) : Int)), .int (iI ((h2 : Nat) : Int)), .ref ak2, .ref ah2])), (ak2, .inl (cI, 100, .inl (aI K2))), (ah2, .inl (cI, 100, .inl (aI B2)))] A t) A) RX0 [(0, .ref b), (1, .ref b2)] (by decide) rfl rfl (Nat.le_of_ble_eq_true rfl) rfl (fun p e s m below meth c A ls Q S hr hlk hnm hAe hsz hP hK hD hA hZ hS hl hQ => ?_)
  have hi0 : ∀ w ∈ u_ws RX0 TX0 4, w ∈ wsX0_copy := by decide +kernel
  refine lv_aload_n S.1 S.2.1 dX0_copy_0 rfl (lv_at hl 0 rfl) ?_
  refine lv_aload_n S.1 S.2.1 dX0_copy_1 rfl (lv_at hl 1 rfl) ?_
  refine r_get S hi0 hK hP 3 rfl rfl 0 (by decide) (by decide +kernel) rfl rfl dX0_copy_2 ?_
  refine r_put S hi0 tyX0 tyX0_ok nmX0 hK hP hD hS 0 rfl rfl 0 (by decide) (by decide +kernel) rfl rfl (ty := .int) (v := .int (iI ((w2 : Nat) : Int))) (by decide +kernel) rfl rfl (by simp) dX0_copy_5 [(b, .inr (0, [.int (iI ((w2 : Nat) : Int)), .int (iI ((h : Nat) : Int)), .ref ak, .ref ah])), (ak, .inl (cI, 100, .inl (aI K))), (ah, .inl (cI, 100, .inl (aI B))), (b2, .inr (0, [.int (iI ((w2 : Nat) : Int)), .int (iI ((h2 : Nat) : Int)), .ref ak2, .ref ah2])), (ak2, .inl (cI, 100, .inl (aI K2))), (ah2, .inl (cI, 100, .inl (aI B2)))] rfl (fun H locs hP hD hS => ?_)
  refine lv_aload_n S.1 S.2.1 dX0_copy_8 rfl (lv_at hl 0 rfl) ?_
  refine lv_aload_n S.1 S.2.1 dX0_copy_9 rfl (lv_at hl 1 rfl) ?_
  refine r_get S hi0 hK hP 3 rfl rfl 1 (by decide) (by decide +kernel) rfl rfl dX0_copy_10 ?_
  refine r_put S hi0 tyX0 tyX0_ok nmX0 hK hP hD hS 0 rfl rfl 1 (by decide) (by decide +kernel) rfl rfl (ty := .int) (v := .int (iI ((h2 : Nat) : Int))) (by decide +kernel) rfl rfl (by simp) dX0_copy_13 [(b, .inr (0, [.int (iI ((w2 : Nat) : Int)), .int (iI ((h2 : Nat) : Int)), .ref ak, .ref ah])), (ak, .inl (cI, 100, .inl (aI K))), (ah, .inl (cI, 100, .inl (aI B))), (b2, .inr (0, [.int (iI ((w2 : Nat) : Int)), .int (iI ((h2 : Nat) : Int)), .ref ak2, .ref ah2])), (ak2, .inl (cI, 100, .inl (aI K2))), (ah2, .inl (cI, 100, .inl (aI B2)))] rfl (fun H locs hP hD hS => ?_)
  refine lv_aload_n S.1 S.2.1 dX0_copy_16 rfl (lv_at hl 1 rfl) ?_
  refine r_get S hi0 hK hP 3 rfl rfl 2 (by decide) (by decide +kernel) rfl rfl dX0_copy_17 ?_
  refine r_iconst S dX0_copy_20 ?_
  refine lv_aload_n S.1 S.2.1 dX0_copy_21 rfl (lv_at hl 0 rfl) ?_
  refine r_get S hi0 hK hP 0 rfl rfl 2 (by decide) (by decide +kernel) rfl rfl dX0_copy_22 ?_
  refine r_iconst S dX0_copy_25 ?_
  refine r_bipush S dX0_copy_26 (by decide) ?_
  refine r_cpy S (by decide +kernel) (by decide +kernel) (by decide +kernel) (by decide +kernel) hl.1 hK hP hD hS 4 1 0 rfl rfl rfl 0 0 100 (by omega) (by omega) (by omega) (by omega) (by omega) (by decide) (by decide) (by decide) (by decide +kernel) dX0_copy_28 [(b, .inr (0, [.int (iI ((w2 : Nat) : Int)), .int (iI ((h2 : Nat) : Int)), .ref ak, .ref ah])), (ak, .inl (cI, 100, .inl (aI (cpyO K2 K 0 0 100)))), (ah, .inl (cI, 100, .inl (aI B))), (b2, .inr (0, [.int (iI ((w2 : Nat) : Int)), .int (iI ((h2 : Nat) : Int)), .ref ak2, .ref ah2])), (ak2, .inl (cI, 100, .inl (aI K2))), (ah2, .inl (cI, 100, .inl (aI B2)))] rfl (fun H locs hP hD hS => ?_)
  subst hQ
  exact e_vret S hr hlk hS (Nat.le_of_ble_eq_true rfl) (Nat.le_of_ble_eq_true rfl) (u := cpyO K2 K 0 0 100) (cpyO_0 _ _ _) (aft_of hK hP hD) dX0_copy_31
set_option maxHeartbeats 4000000 in
set_option maxRecDepth 100000 in
theorem mX0_tellNeighbours (l : Launch) (D : va_G) (cI cJ : ClassId) (Z : Nat → Nat) (sz : Nat) (b : Nat) (ak : Nat) (ah : Nat) (w : Nat) (h : Nat) (K : Nat → Int) (B : Nat → Int) (x : Int) (y : Int) (hww : 3 ≤ w ∧ w ≤ 10) (hhh : 3 ≤ h ∧ h ≤ 10) (hx : -1000 ≤ x ∧ x ≤ 1000) (hy : -1000 ≤ y ∧ y ≤ 1000) : Met l yX0_tellNeighbours wsX0_tellNeighbours (rmk 2 0 0 45) (va_Pc [.ref b, .int (iI x), .int (iI y)] (preW D [(cI, .int), (cJ, .long)] Z [(b, .inr (0, [.int (iI ((w : Nat) : Int)), .int (iI ((h : Nat) : Int)), .ref ak, .ref ah])), (ak, .inl (cI, 100, .inl (aI K))), (ah, .inl (cI, 100, .inl (aI B)))] sz)) (va_Qv (fun (u : (Nat → Int)) => ∀ c, c < 100 → u c = B c + (nbN w h x y c 8 : Nat)) (fun (u : (Nat → Int)) t => aftW D [(cI, .int), (cJ, .long)] [(b, .inr (0, [.int (iI ((w : Nat) : Int)), .int (iI ((h : Nat) : Int)), .ref ak, .ref ah])), (ak, .inl (cI, 100, .inl (aI K))), (ah, .inl (cI, 100, .inl (aI u)))] (va_A [(b, .inr (0, [.int (iI ((w : Nat) : Int)), .int (iI ((h : Nat) : Int)), .ref ak, .ref ah])), (ak, .inl (cI, 100, .inl (aI K))), (ah, .inl (cI, 100, .inl (aI B)))] sz) t) (va_A [(b, .inr (0, [.int (iI ((w : Nat) : Int)), .int (iI ((h : Nat) : Int)), .ref ak, .ref ah])), (ak, .inl (cI, 100, .inl (aI K))), (ah, .inl (cI, 100, .inl (aI B)))] sz)) 0 0 (va_A [(b, .inr (0, [.int (iI ((w : Nat) : Int)), .int (iI ((h : Nat) : Int)), .ref ak, .ref ah])), (ak, .inl (cI, 100, .inl (aI K))), (ah, .inl (cI, 100, .inl (aI B)))] sz) := by
  refine m_of (cc := cX0_tellNeighbours) (maxL := 5) (ret := none) (Qc := fun A => va_Qv (fun (u : (Nat → Int)) => ∀ c, c < 100 → u c = B c + (nbN w h x y c 8 : Nat)) (fun (u : (Nat → Int)) t => aftW D [(cI, .int), (cJ, .long)] [(b, .inr (0, [.int (iI ((w : Nat) : Int)), .int (iI ((h : Nat) : Int)), .ref ak, .ref ah])), (ak, .inl (cI, 100, .inl (aI K))), (ah, .inl (cI, 100, .inl (aI u)))] A t) A) RX0 [(0, .ref b), (1, .int (iI x)), (2, .int (iI y))] (by decide) rfl rfl (Nat.le_of_ble_eq_true rfl) rfl (fun p e s m below meth c A ls Q S hr hlk hnm hAe hsz hP hK hD hA hZ hS hl hQ => ?_)
  have hi0 : ∀ w ∈ u_ws RX0 TX0 4, w ∈ wsX0_tellNeighbours := by decide +kernel
  refine r_iconst S dX0_tellNeighbours_0 ?_
  refine lv_istore_n (lv' := [(3, .int (iI 0)), (0, .ref b), (1, .int (iI x)), (2, .int (iI y))]) S.1 S.2.1 dX0_tellNeighbours_1 rfl hl (by decide) rfl (fun ls hl => ?_)
  have lp2 : ∀ (fu : Nat) (i : Nat) (B1 : Nat → Int), 8 - i < fu → (i ≤ 8) → (∀ c, c < 100 → B1 c = B c + (nbN w h x y c i : Nat)) → ∀ (H : Heap) (locs : List Loc) (ls : Array Slot), va_P D vwCl [(b, .inr (0, [.int (iI ((w : Nat) : Int)), .int (iI ((h : Nat) : Int)), .ref ak, .ref ah])), (ak, .inl (cI, 100, .inl (aI K))), (ah, .inl (cI, 100, .inl (aI B1)))] H → va_D A [(b, .inr (0, [.int (iI ((w : Nat) : Int)), .int (iI ((h : Nat) : Int)), .ref ak, .ref ah])), (ak, .inl (cI, 100, .inl (aI K))), (ah, .inl (cI, 100, .inl (aI B1)))] → va_S A s.heap H locs → lv_has ls 5 [(0, .ref b), (1, .int (iI x)), (2, .int (iI y)), (3, .int (iI ((i : Nat) : Int)))] → W p l e (rmk 2 0 0 45) s m ([.ref b, .int (iI x), .int (iI y)] : List Value).toArray below meth c H locs 0 0 Q (F0 m 2 ls []) := by
    intro fu
    induction fu with
    | zero => intro i B1 hmu; exact absurd hmu (Nat.not_lt_zero _)
    | succ fu ih_lp2 =>
      intro i B1 hmu hi hB H locs ls hP hD hS hl
      refine lv_iload_n S.1 S.2.1 dX0_tellNeighbours_2 rfl (lv_at hl 3 rfl) ?_
      refine r_bipush S dX0_tellNeighbours_3 (by decide) ?_
      refine r_icmp_ge S (tgt := 42) dX0_tellNeighbours_5 (by decide) ⟨by omega, by omega⟩ ⟨by decide, by decide⟩ (fun c5 => ?_) (fun c5 => ?_)
      · subst hQ
        exact e_vret S hr hlk hS (Nat.le_of_ble_eq_true rfl) (Nat.le_of_ble_eq_true rfl) (u := B1) (by rw [show (8 : Nat) = i by omega]; exact hB) (aft_of hK hP hD) dX0_tellNeighbours_42
      · refine lv_aload_n S.1 S.2.1 dX0_tellNeighbours_8 rfl (lv_at hl 0 rfl) ?_
        refine lv_iload_n S.1 S.2.1 dX0_tellNeighbours_9 rfl (lv_at hl 1 rfl) ?_
        refine lv_iload_n S.1 S.2.1 dX0_tellNeighbours_10 rfl (lv_at hl 2 rfl) ?_
        refine lv_iload_n S.1 S.2.1 dX0_tellNeighbours_11 rfl (lv_at hl 3 rfl) ?_
        refine k_i (wr := []) (va_runV (As := [.int (iI x), .int (iI y), .int (iI ((i : Nat) : Int))]) (rest := []) S (mX0_neighbour l D cI cJ Z _ b ak ah w h K B1 x y i (by first | with_reducible assumption | omega | exact ⟨by omega, by omega⟩ | assumption) (by first | with_reducible assumption | omega | exact ⟨by omega, by omega⟩ | assumption) (by first | with_reducible assumption | omega | exact ⟨by omega, by omega⟩ | assumption) (by first | with_reducible assumption | omega | exact ⟨by omega, by omega⟩ | assumption) (by first | with_reducible assumption | omega | exact ⟨by omega, by omega⟩ | assumption)) (cwV 3 S.2.2.2.2 gX0_tellNeighbours_X0_neighbour rfl rfl rfl (by decide +kernel) ⟨Nat.le_of_ble_eq_true rfl, Nat.le_of_ble_eq_true rfl⟩) (preV_of hK hP hD hS hA hZ [0, 1, 2] (by decide) rfl 0 0 rfl rfl) rfl rfl hl.1 rfl (lv_room (Nat.le_of_ble_eq_true rfl)) dX0_tellNeighbours_12 ⟨Nat.le_of_ble_eq_true rfl, Nat.le_of_ble_eq_true rfl⟩) hP hD hS hA [0, 1, 2] [] rfl rfl (by decide) (by decide) [0, 1, 2] (by decide) (fun u => [(b, .inr (0, [.int (iI ((w : Nat) : Int)), .int (iI ((h : Nat) : Int)), .ref ak, .ref ah])), (ak, .inl (cI, 100, .inl (aI K))), (ah, .inl (cI, 100, .inl (aI B1)))]) (fun u => rfl) (fun r u H locs hpo hP hD hS => ?_)
        obtain rfl := hpo
        have hcr := cellZ_100 hww hhh (x + dX i) (y + dY i)
        refine lv_istore (lv' := [(4, .int (iI (cellZ w h (x + dX i) (y + dY i)))), (0, .ref b), (1, .int (iI x)), (2, .int (iI y)), (3, .int (iI ((i : Nat) : Int)))]) S.1 S.2.1 dX0_tellNeighbours_15 hl (by decide) rfl (fun ls hl => ?_)
        refine lv_iload S.1 S.2.1 dX0_tellNeighbours_17 (lv_at hl 0 rfl) ?_
        refine k_i (wr := [(b, .inr (0, [.int (iI ((w : Nat) : Int)), .int (iI ((h : Nat) : Int)), .ref ak, .ref ah])), (ak, .inl (cI, 100, .inl (aI K))), (ah, .inl (cI, 100, .inl (aI B1)))]) (va_runS (As := [.int (iI (cellZ w h (x + dX i) (y + dY i)))]) (rest := []) S (mX0_hasPlace l D cI cJ Z _ (cellZ w h (x + dX i) (y + dY i)) (by first | with_reducible assumption | omega | exact ⟨by omega, by omega⟩ | assumption)) (va_cwS 1 S.2.2.2.2 gX0_tellNeighbours_X0_hasPlace rfl rfl rfl (by decide +kernel) ⟨Nat.le_of_ble_eq_true rfl, Nat.le_of_ble_eq_true rfl⟩) (preS_of hK hP hD hS hA hZ [] (by decide) rfl) rfl rfl hl.1 rfl (lv_room (Nat.le_of_ble_eq_true rfl)) dX0_tellNeighbours_19 ⟨Nat.le_of_ble_eq_true rfl, Nat.le_of_ble_eq_true rfl⟩) hP hD hS hA [] [0, 1, 2] rfl rfl (by decide) (by decide) [0, 1, 2] (by decide) (fun u => [(b, .inr (0, [.int (iI ((w : Nat) : Int)), .int (iI ((h : Nat) : Int)), .ref ak, .ref ah])), (ak, .inl (cI, 100, .inl (aI K))), (ah, .inl (cI, 100, .inl (aI B1)))]) (fun u => rfl) (fun r u H locs hpo hP hD hS => ?_)
        obtain rfl := hpo
        have hpr := placeZ_rng (cellZ w h (x + dX i) (y + dY i))
        refine r_if_eq S (tgt := 36) dX0_tellNeighbours_22 (by decide) ⟨by omega, by omega⟩ (fun c22 => ?_) (fun c22 => ?_)
        · have hp0 := placeZ_0 c22
          refine r_iinc S (z := ((i + 1 : Nat) : Int)) (k0 := 4) (lv' := [(3, .int (iI ((i + 1 : Nat) : Int))), (4, .int (iI (cellZ w h (x + dX i) (y + dY i)))), (0, .ref b), (1, .int (iI x)), (2, .int (iI y))]) dX0_tellNeighbours_36 hl rfl (by omega) (by decide) rfl (fun ls hl => ?_)
          refine r_goto S (tgt := 2) dX0_tellNeighbours_39 (by decide) ?_
          exact ih_lp2 (i + 1) B1 (by omega) (by omega) (by first | exact tell_out hB (by omega) | exact tell_in hB (by omega)) _ _ _ hP hD hS (lv_sub hl [2, 3, 4, 0] rfl)
        · have hp1 := placeZ_1 c22
          refine lv_aload_n S.1 S.2.1 dX0_tellNeighbours_25 rfl (lv_at hl 1 rfl) ?_
          refine r_get S hi0 hK hP 0 rfl rfl 3 (by decide) (by decide +kernel) rfl rfl dX0_tellNeighbours_26 ?_
          refine lv_iload S.1 S.2.1 dX0_tellNeighbours_29 (lv_at hl 0 rfl) ?_
          refine lv_dup2_11 S.1 S.2.1 dX0_tellNeighbours_31 rfl rfl ?_
          refine r_iald S hK hP 2 0 rfl rfl ((cellZ w h (x + dX i) (y + dY i)).toNat) (by omega) (by omega) (by decide) dX0_tellNeighbours_32 ?_
          refine r_iconst S dX0_tellNeighbours_33 ?_
          refine r_iadd S dX0_tellNeighbours_34 (z := ((B1 ((cellZ w h (x + dX i) (y + dY i)).toNat)) + 1)) (rfl) ?_
          refine r_iast S hK hP hD hS 2 0 rfl rfl ((cellZ w h (x + dX i) (y + dY i)).toNat) (by omega) (by omega) (by decide) dX0_tellNeighbours_35 [(b, .inr (0, [.int (iI ((w : Nat) : Int)), .int (iI ((h : Nat) : Int)), .ref ak, .ref ah])), (ak, .inl (cI, 100, .inl (aI K))), (ah, .inl (cI, 100, .inl (aI (upZ B1 ((cellZ w h (x + dX i) (y + dY i)).toNat) ((B1 ((cellZ w h (x + dX i) (y + dY i)).toNat)) + 1)))))] rfl (fun H locs hP hD hS => ?_)
          refine r_iinc S (z := ((i + 1 : Nat) : Int)) (k0 := 4) (lv' := [(3, .int (iI ((i + 1 : Nat) : Int))), (4, .int (iI (cellZ w h (x + dX i) (y + dY i)))), (0, .ref b), (1, .int (iI x)), (2, .int (iI y))]) dX0_tellNeighbours_36 hl rfl (by omega) (by decide) rfl (fun ls hl => ?_)
          refine r_goto S (tgt := 2) dX0_tellNeighbours_39 (by decide) ?_
          exact ih_lp2 (i + 1) (upZ B1 ((cellZ w h (x + dX i) (y + dY i)).toNat) ((B1 ((cellZ w h (x + dX i) (y + dY i)).toNat)) + 1)) (by omega) (by omega) (by first | exact tell_out hB (by omega) | exact tell_in hB (by omega)) _ _ _ hP hD hS (lv_sub hl [2, 3, 4, 0] rfl)
  exact lp2 _ 0 B (Nat.lt_succ_self _) (by omega) (fun c _ => (Int.add_zero _).symm) _ _ _ hP hD hS (lv_sub hl [1, 2, 3, 0] rfl)
set_option maxHeartbeats 4000000 in
set_option maxRecDepth 100000 in
theorem mX0_countHeadsBeside (l : Launch) (D : va_G) (cI cJ : ClassId) (Z : Nat → Nat) (sz : Nat) (b : Nat) (ak : Nat) (ah : Nat) (w : Nat) (h : Nat) (K : Nat → Int) (B : Nat → Int) (hww : 3 ≤ w ∧ w ≤ 10) (hhh : 3 ≤ h ∧ h ≤ 10) (hKK : okK K) : Met l yX0_countHeadsBeside wsX0_countHeadsBeside (rmk 3 0 0 69) (va_Pc [.ref b] (preW D [(cI, .int), (cJ, .long)] Z [(b, .inr (0, [.int (iI ((w : Nat) : Int)), .int (iI ((h : Nat) : Int)), .ref ak, .ref ah])), (ak, .inl (cI, 100, .inl (aI K))), (ah, .inl (cI, 100, .inl (aI B)))] sz)) (va_Qv (fun (u : (Nat → Int)) => ∀ c, c < 100 → u c = (besZ w h K c (w * h) : Nat)) (fun (u : (Nat → Int)) t => aftW D [(cI, .int), (cJ, .long)] [(b, .inr (0, [.int (iI ((w : Nat) : Int)), .int (iI ((h : Nat) : Int)), .ref ak, .ref ah])), (ak, .inl (cI, 100, .inl (aI K))), (ah, .inl (cI, 100, .inl (aI u)))] (va_A [(b, .inr (0, [.int (iI ((w : Nat) : Int)), .int (iI ((h : Nat) : Int)), .ref ak, .ref ah])), (ak, .inl (cI, 100, .inl (aI K))), (ah, .inl (cI, 100, .inl (aI B)))] sz) t) (va_A [(b, .inr (0, [.int (iI ((w : Nat) : Int)), .int (iI ((h : Nat) : Int)), .ref ak, .ref ah])), (ak, .inl (cI, 100, .inl (aI K))), (ah, .inl (cI, 100, .inl (aI B)))] sz)) 0 0 (va_A [(b, .inr (0, [.int (iI ((w : Nat) : Int)), .int (iI ((h : Nat) : Int)), .ref ak, .ref ah])), (ak, .inl (cI, 100, .inl (aI K))), (ah, .inl (cI, 100, .inl (aI B)))] sz) := by
  refine m_of (cc := cX0_countHeadsBeside) (maxL := 3) (ret := none) (Qc := fun A => va_Qv (fun (u : (Nat → Int)) => ∀ c, c < 100 → u c = (besZ w h K c (w * h) : Nat)) (fun (u : (Nat → Int)) t => aftW D [(cI, .int), (cJ, .long)] [(b, .inr (0, [.int (iI ((w : Nat) : Int)), .int (iI ((h : Nat) : Int)), .ref ak, .ref ah])), (ak, .inl (cI, 100, .inl (aI K))), (ah, .inl (cI, 100, .inl (aI u)))] A t) A) RX0 [(0, .ref b)] (by decide) rfl rfl (Nat.le_of_ble_eq_true rfl) rfl (fun p e s m below meth c A ls Q S hr hlk hnm hAe hsz hP hK hD hA hZ hS hl hQ => ?_)
  have hi0 : ∀ w ∈ u_ws RX0 TX0 4, w ∈ wsX0_countHeadsBeside := by decide +kernel
  have hsz := size_le hww hhh
  refine lv_aload_n S.1 S.2.1 dX0_countHeadsBeside_0 rfl (lv_at hl 0 rfl) ?_
  refine r_get S hi0 hK hP 0 rfl rfl 3 (by decide) (by decide +kernel) rfl rfl dX0_countHeadsBeside_1 ?_
  refine r_iconst S dX0_countHeadsBeside_4 ?_
  refine k_v (wr := [(b, .inr (0, [.int (iI ((w : Nat) : Int)), .int (iI ((h : Nat) : Int)), .ref ak, .ref ah])), (ak, .inl (cI, 100, .inl (aI K)))]) (va_runS (As := [.ref ah, .int (iI 0)]) (rest := []) S (mJ7_fill_53178 l D cI cJ Z _ ah B 0 ) (va_cwS 2 S.2.2.2.2 gX0_countHeadsBeside_J7_fill_53178 rfl rfl rfl (by decide +kernel) ⟨Nat.le_of_ble_eq_true rfl, Nat.le_of_ble_eq_true rfl⟩) (preS_of hK hP hD hS hA hZ [2] (by decide) rfl) rfl rfl hl.1 rfl (lv_room (Nat.le_of_ble_eq_true rfl)) dX0_countHeadsBeside_5 ⟨Nat.le_of_ble_eq_true rfl, Nat.le_of_ble_eq_true rfl⟩) hP hD hS hA [2] [0, 1] rfl rfl (by decide) (by decide) [0, 1, 2] (by decide) (fun u => [(b, .inr (0, [.int (iI ((w : Nat) : Int)), .int (iI ((h : Nat) : Int)), .ref ak, .ref ah])), (ak, .inl (cI, 100, .inl (aI K))), (ah, .inl (cI, 100, .inl (aI u)))]) (fun u => rfl) (fun u H locs hpo hP hD hS => ?_)
  generalize u = F1_1 at hpo hP hD
  try dsimp only at hpo
  have hP : va_P D vwCl [(b, .inr (0, [.int (iI ((w : Nat) : Int)), .int (iI ((h : Nat) : Int)), .ref ak, .ref ah])), (ak, .inl (cI, 100, .inl (aI K))), (ah, .inl (cI, 100, .inl (aI F1_1)))] _ := hP
  have hD : va_D A [(b, .inr (0, [.int (iI ((w : Nat) : Int)), .int (iI ((h : Nat) : Int)), .ref ak, .ref ah])), (ak, .inl (cI, 100, .inl (aI K))), (ah, .inl (cI, 100, .inl (aI F1_1)))] := hD
  have e_F1_1 := hpo
  subst e_F1_1
  refine r_iconst S dX0_countHeadsBeside_8 ?_
  refine lv_istore_n (lv' := [(1, .int (iI 0)), (0, .ref b)]) S.1 S.2.1 dX0_countHeadsBeside_9 rfl hl (by decide) rfl (fun ls hl => ?_)
  have lp10 : ∀ (fu : Nat) (j : Nat) (B1 : Nat → Int), h - j < fu → (j ≤ h) → (∀ c, c < 100 → B1 c = (besZ w h K c (w * j) : Nat)) → ∀ (H : Heap) (locs : List Loc) (ls : Array Slot), va_P D vwCl [(b, .inr (0, [.int (iI ((w : Nat) : Int)), .int (iI ((h : Nat) : Int)), .ref ak, .ref ah])), (ak, .inl (cI, 100, .inl (aI K))), (ah, .inl (cI, 100, .inl (aI B1)))] H → va_D A [(b, .inr (0, [.int (iI ((w : Nat) : Int)), .int (iI ((h : Nat) : Int)), .ref ak, .ref ah])), (ak, .inl (cI, 100, .inl (aI K))), (ah, .inl (cI, 100, .inl (aI B1)))] → va_S A s.heap H locs → lv_has ls 3 [(0, .ref b), (1, .int (iI ((j : Nat) : Int)))] → W p l e (rmk 3 0 0 69) s m ([.ref b] : List Value).toArray below meth c H locs 0 0 Q (F0 m 10 ls []) := by
    intro fu
    induction fu with
    | zero => intro j B1 hmu; exact absurd hmu (Nat.not_lt_zero _)
    | succ fu ih_lp10 =>
      intro j B1 hmu hj hB H locs ls hP hD hS hl
      refine lv_iload_n S.1 S.2.1 dX0_countHeadsBeside_10 rfl (lv_at hl 1 rfl) ?_
      refine lv_aload_n S.1 S.2.1 dX0_countHeadsBeside_11 rfl (lv_at hl 0 rfl) ?_
      refine r_get S hi0 hK hP 0 rfl rfl 1 (by decide) (by decide +kernel) rfl rfl dX0_countHeadsBeside_12 ?_
      refine r_icmp_ge S (tgt := 60) dX0_countHeadsBeside_15 (by decide) ⟨by omega, by omega⟩ ⟨by omega, by omega⟩ (fun c15 => ?_) (fun c15 => ?_)
      · subst hQ
        exact e_vret S hr hlk hS (Nat.le_of_ble_eq_true rfl) (Nat.le_of_ble_eq_true rfl) (u := B1) (by rw [show w * h = w * j by rw [show j = h by omega]]; exact hB) (aft_of hK hP hD) dX0_countHeadsBeside_60
      · refine r_iconst S dX0_countHeadsBeside_18 ?_
        refine lv_istore_n (lv' := [(2, .int (iI 0)), (0, .ref b), (1, .int (iI ((j : Nat) : Int)))]) S.1 S.2.1 dX0_countHeadsBeside_19 rfl hl (by decide) rfl (fun ls hl => ?_)
        have lp20 : ∀ (fu : Nat) (i : Nat) (B2 : Nat → Int), w - i < fu → (i ≤ w) → (∀ c, c < 100 → B2 c = (besZ w h K c (w * j + i) : Nat)) → ∀ (H : Heap) (locs : List Loc) (ls : Array Slot), va_P D vwCl [(b, .inr (0, [.int (iI ((w : Nat) : Int)), .int (iI ((h : Nat) : Int)), .ref ak, .ref ah])), (ak, .inl (cI, 100, .inl (aI K))), (ah, .inl (cI, 100, .inl (aI B2)))] H → va_D A [(b, .inr (0, [.int (iI ((w : Nat) : Int)), .int (iI ((h : Nat) : Int)), .ref ak, .ref ah])), (ak, .inl (cI, 100, .inl (aI K))), (ah, .inl (cI, 100, .inl (aI B2)))] → va_S A s.heap H locs → lv_has ls 3 [(0, .ref b), (1, .int (iI ((j : Nat) : Int))), (2, .int (iI ((i : Nat) : Int)))] → W p l e (rmk 3 0 0 69) s m ([.ref b] : List Value).toArray below meth c H locs 0 0 Q (F0 m 20 ls []) := by
          intro fu
          induction fu with
          | zero => intro i B2 hmu; exact absurd hmu (Nat.not_lt_zero _)
          | succ fu ih_lp20 =>
            intro i B2 hmu hi hB2 H locs ls hP hD hS hl
            refine lv_iload_n S.1 S.2.1 dX0_countHeadsBeside_20 rfl (lv_at hl 2 rfl) ?_
            refine lv_aload_n S.1 S.2.1 dX0_countHeadsBeside_21 rfl (lv_at hl 0 rfl) ?_
            refine r_get S hi0 hK hP 0 rfl rfl 0 (by decide) (by decide +kernel) rfl rfl dX0_countHeadsBeside_22 ?_
            refine r_icmp_ge S (tgt := 54) dX0_countHeadsBeside_25 (by decide) ⟨by omega, by omega⟩ ⟨by omega, by omega⟩ (fun c25 => ?_) (fun c25 => ?_)
            · refine r_iinc S (z := ((j + 1 : Nat) : Int)) (k0 := 1) (lv' := [(1, .int (iI ((j + 1 : Nat) : Int))), (0, .ref b), (2, .int (iI ((i : Nat) : Int)))]) dX0_countHeadsBeside_54 hl rfl (by omega) (by decide) rfl (fun ls hl => ?_)
              refine r_goto S (tgt := 10) dX0_countHeadsBeside_57 (by decide) ?_
              exact ih_lp10 (j + 1) B2 (by omega) (by omega) (by rw [Nat.mul_succ, show w * j + w = w * j + i by omega]; exact hB2) _ _ _ hP hD hS (lv_sub hl [1, 0] rfl)
            · refine lv_aload_n S.1 S.2.1 dX0_countHeadsBeside_28 rfl (lv_at hl 0 rfl) ?_
              refine lv_aload_n S.1 S.2.1 dX0_countHeadsBeside_29 rfl (lv_at hl 0 rfl) ?_
              refine lv_iload_n S.1 S.2.1 dX0_countHeadsBeside_30 rfl (lv_at hl 2 rfl) ?_
              refine lv_iload_n S.1 S.2.1 dX0_countHeadsBeside_31 rfl (lv_at hl 1 rfl) ?_
              refine k_i (wr := []) (va_runV (As := [.int (iI ((i : Nat) : Int)), .int (iI ((j : Nat) : Int))]) (rest := [.ref b]) S (mX0_cell l D cI cJ Z _ b ak ah w h K B2 ((i : Nat) : Int) ((j : Nat) : Int) (by first | with_reducible assumption | omega | exact ⟨by omega, by omega⟩ | assumption) (by first | with_reducible assumption | omega | exact ⟨by omega, by omega⟩ | assumption) (by first | with_reducible assumption | omega | exact ⟨by omega, by omega⟩ | assumption) (by first | with_reducible assumption | omega | exact ⟨by omega, by omega⟩ | assumption)) (cwV 2 S.2.2.2.2 gX0_countHeadsBeside_X0_cell rfl rfl rfl (by decide +kernel) ⟨Nat.le_of_ble_eq_true rfl, Nat.le_of_ble_eq_true rfl⟩) (preV_of hK hP hD hS hA hZ [0, 1, 2] (by decide) rfl 0 0 rfl rfl) rfl rfl hl.1 rfl (lv_room (Nat.le_of_ble_eq_true rfl)) dX0_countHeadsBeside_32 ⟨Nat.le_of_ble_eq_true rfl, Nat.le_of_ble_eq_true rfl⟩) hP hD hS hA [0, 1, 2] [] rfl rfl (by decide) (by decide) [0, 1, 2] (by decide) (fun u => [(b, .inr (0, [.int (iI ((w : Nat) : Int)), .int (iI ((h : Nat) : Int)), .ref ak, .ref ah])), (ak, .inl (cI, 100, .inl (aI K))), (ah, .inl (cI, 100, .inl (aI B2)))]) (fun u => rfl) (fun r u H locs hpo hP hD hS => ?_)
              obtain rfl := hpo
              have hcz := cellZ_in (w := w) (h := h) (x := (i : Int)) (y := (j : Int)) (by omega) (by omega) (by omega) (by omega)
              have hci := idx_lt (w := w) (h := h) (x := (i : Int)) (y := (j : Int)) (by omega) (by omega) (by omega) (by omega)
              have hcn : (w : Int) * j + i = ((w * j + i : Nat) : Int) := by rw [Int.natCast_add, Int.natCast_mul]
              have hcr := cellZ_100 hww hhh (i : Int) (j : Int)
              have hkr := kindZ_rng hKK (cellZ w h (i : Int) (j : Int))
              have hkz : kindZ K (cellZ w h (i : Int) (j : Int)) = K (w * j + i) := by rw [kindZ_in (by omega) (by omega), hcz, hcn, Int.toNat_natCast]
              refine k_i (wr := []) (va_runV (As := [.int (iI (cellZ w h ((i : Nat) : Int) ((j : Nat) : Int)))]) (rest := []) S (mX0_kind l D cI cJ Z _ b ak ah w h K B2 (cellZ w h ((i : Nat) : Int) ((j : Nat) : Int)) (by first | with_reducible assumption | omega | exact ⟨by omega, by omega⟩ | assumption) (by first | with_reducible assumption | omega | exact ⟨by omega, by omega⟩ | assumption) (by first | with_reducible assumption | omega | exact ⟨by omega, by omega⟩ | assumption)) (cwV 1 S.2.2.2.2 gX0_countHeadsBeside_X0_kind rfl rfl rfl (by decide +kernel) ⟨Nat.le_of_ble_eq_true rfl, Nat.le_of_ble_eq_true rfl⟩) (preV_of hK hP hD hS hA hZ [0, 1, 2] (by decide) rfl 0 0 rfl rfl) rfl rfl hl.1 rfl (lv_room (Nat.le_of_ble_eq_true rfl)) dX0_countHeadsBeside_35 ⟨Nat.le_of_ble_eq_true rfl, Nat.le_of_ble_eq_true rfl⟩) hP hD hS hA [0, 1, 2] [] rfl rfl (by decide) (by decide) [0, 1, 2] (by decide) (fun u => [(b, .inr (0, [.int (iI ((w : Nat) : Int)), .int (iI ((h : Nat) : Int)), .ref ak, .ref ah])), (ak, .inl (cI, 100, .inl (aI K))), (ah, .inl (cI, 100, .inl (aI B2)))]) (fun u => rfl) (fun r u H locs hpo hP hD hS => ?_)
              obtain rfl := hpo
              refine r_iconst S dX0_countHeadsBeside_38 ?_
              refine r_icmp_ne S (tgt := 48) dX0_countHeadsBeside_39 (by decide) ⟨by omega, by omega⟩ ⟨by decide, by decide⟩ (fun c39 => ?_) (fun c39 => ?_)
              · refine r_iinc S (z := ((i + 1 : Nat) : Int)) (k0 := 2) (lv' := [(2, .int (iI ((i + 1 : Nat) : Int))), (0, .ref b), (1, .int (iI ((j : Nat) : Int)))]) dX0_countHeadsBeside_48 hl rfl (by omega) (by decide) rfl (fun ls hl => ?_)
                refine r_goto S (tgt := 20) dX0_countHeadsBeside_51 (by decide) ?_
                exact ih_lp20 (i + 1) B2 (by omega) (by omega) (by first | exact bes_f hB2 (by rw [← hkz]; exact c39) | exact bes_t (by omega) hB2 (by rw [← hkz]; exact c39) hw45) _ _ _ hP hD hS (lv_sub hl [1, 2, 0] rfl)
              · refine lv_aload_n S.1 S.2.1 dX0_countHeadsBeside_42 rfl (lv_at hl 0 rfl) ?_
                refine lv_iload_n S.1 S.2.1 dX0_countHeadsBeside_43 rfl (lv_at hl 2 rfl) ?_
                refine lv_iload_n S.1 S.2.1 dX0_countHeadsBeside_44 rfl (lv_at hl 1 rfl) ?_
                refine k_v (wr := []) (va_runV (As := [.int (iI ((i : Nat) : Int)), .int (iI ((j : Nat) : Int))]) (rest := []) S (mX0_tellNeighbours l D cI cJ Z _ b ak ah w h K B2 ((i : Nat) : Int) ((j : Nat) : Int) (by first | with_reducible assumption | omega | exact ⟨by omega, by omega⟩ | assumption) (by first | with_reducible assumption | omega | exact ⟨by omega, by omega⟩ | assumption) (by first | with_reducible assumption | omega | exact ⟨by omega, by omega⟩ | assumption) (by first | with_reducible assumption | omega | exact ⟨by omega, by omega⟩ | assumption)) (cwV 2 S.2.2.2.2 gX0_countHeadsBeside_X0_tellNeighbours rfl rfl rfl (by decide +kernel) ⟨Nat.le_of_ble_eq_true rfl, Nat.le_of_ble_eq_true rfl⟩) (preV_of hK hP hD hS hA hZ [0, 1, 2] (by decide) rfl 0 0 rfl rfl) rfl rfl hl.1 rfl (lv_room (Nat.le_of_ble_eq_true rfl)) dX0_countHeadsBeside_45 ⟨Nat.le_of_ble_eq_true rfl, Nat.le_of_ble_eq_true rfl⟩) hP hD hS hA [0, 1, 2] [] rfl rfl (by decide) (by decide) [0, 1, 2] (by decide) (fun u => [(b, .inr (0, [.int (iI ((w : Nat) : Int)), .int (iI ((h : Nat) : Int)), .ref ak, .ref ah])), (ak, .inl (cI, 100, .inl (aI K))), (ah, .inl (cI, 100, .inl (aI u)))]) (fun u => rfl) (fun u H locs hpo hP hD hS => ?_)
                generalize u = B1_4 at hpo hP hD
                try dsimp only at hpo
                have hP : va_P D vwCl [(b, .inr (0, [.int (iI ((w : Nat) : Int)), .int (iI ((h : Nat) : Int)), .ref ak, .ref ah])), (ak, .inl (cI, 100, .inl (aI K))), (ah, .inl (cI, 100, .inl (aI B1_4)))] _ := hP
                have hD : va_D A [(b, .inr (0, [.int (iI ((w : Nat) : Int)), .int (iI ((h : Nat) : Int)), .ref ak, .ref ah])), (ak, .inl (cI, 100, .inl (aI K))), (ah, .inl (cI, 100, .inl (aI B1_4)))] := hD
                have hw45 := hpo
                refine r_iinc S (z := ((i + 1 : Nat) : Int)) (k0 := 2) (lv' := [(2, .int (iI ((i + 1 : Nat) : Int))), (0, .ref b), (1, .int (iI ((j : Nat) : Int)))]) dX0_countHeadsBeside_48 hl rfl (by omega) (by decide) rfl (fun ls hl => ?_)
                refine r_goto S (tgt := 20) dX0_countHeadsBeside_51 (by decide) ?_
                exact ih_lp20 (i + 1) B1_4 (by omega) (by omega) (by first | exact bes_f hB2 (by rw [← hkz]; exact c39) | exact bes_t (by omega) hB2 (by rw [← hkz]; exact c39) hw45) _ _ _ hP hD hS (lv_sub hl [1, 2, 0] rfl)
        exact lp20 _ 0 B1 (Nat.lt_succ_self _) (by omega) hB _ _ _ hP hD hS (lv_sub hl [1, 2, 0] rfl)
  exact lp10 _ 0 (fillZ B 0 100) (Nat.lt_succ_self _) (by omega) (fun c hc => fillZ_in hc) _ _ _ hP hD hS (lv_sub hl [1, 0] rfl)
set_option maxHeartbeats 4000000 in
set_option maxRecDepth 100000 in
theorem mX0_step (l : Launch) (D : va_G) (cI cJ : ClassId) (Z : Nat → Nat) (sz : Nat) (b : Nat) (ak : Nat) (ah : Nat) (w : Nat) (h : Nat) (K : Nat → Int) (B : Nat → Int) (hww : 3 ≤ w ∧ w ≤ 10) (hhh : 3 ≤ h ∧ h ≤ 10) (hKK : okK K) (hTl : tlK w h K) : Met l yX0_step wsX0_step (rmk 4 0 0 91) (va_Pc [.ref b] (preW D [(cI, .int), (cJ, .long)] Z [(b, .inr (0, [.int (iI ((w : Nat) : Int)), .int (iI ((h : Nat) : Int)), .ref ak, .ref ah])), (ak, .inl (cI, 100, .inl (aI K))), (ah, .inl (cI, 100, .inl (aI B)))] sz)) (va_Qv (fun (u : (Nat → Int) × (Nat → Int)) => u.1 = stepK w h K) (fun (u : (Nat → Int) × (Nat → Int)) t => aftW D [(cI, .int), (cJ, .long)] [(b, .inr (0, [.int (iI ((w : Nat) : Int)), .int (iI ((h : Nat) : Int)), .ref ak, .ref ah])), (ak, .inl (cI, 100, .inl (aI u.1))), (ah, .inl (cI, 100, .inl (aI u.2)))] (va_A [(b, .inr (0, [.int (iI ((w : Nat) : Int)), .int (iI ((h : Nat) : Int)), .ref ak, .ref ah])), (ak, .inl (cI, 100, .inl (aI K))), (ah, .inl (cI, 100, .inl (aI B)))] sz) t) (va_A [(b, .inr (0, [.int (iI ((w : Nat) : Int)), .int (iI ((h : Nat) : Int)), .ref ak, .ref ah])), (ak, .inl (cI, 100, .inl (aI K))), (ah, .inl (cI, 100, .inl (aI B)))] sz)) 0 0 (va_A [(b, .inr (0, [.int (iI ((w : Nat) : Int)), .int (iI ((h : Nat) : Int)), .ref ak, .ref ah])), (ak, .inl (cI, 100, .inl (aI K))), (ah, .inl (cI, 100, .inl (aI B)))] sz) := by
  refine m_of (cc := cX0_step) (maxL := 2) (ret := none) (Qc := fun A => va_Qv (fun (u : (Nat → Int) × (Nat → Int)) => u.1 = stepK w h K) (fun (u : (Nat → Int) × (Nat → Int)) t => aftW D [(cI, .int), (cJ, .long)] [(b, .inr (0, [.int (iI ((w : Nat) : Int)), .int (iI ((h : Nat) : Int)), .ref ak, .ref ah])), (ak, .inl (cI, 100, .inl (aI u.1))), (ah, .inl (cI, 100, .inl (aI u.2)))] A t) A) RX0 [(0, .ref b)] (by decide) rfl rfl (Nat.le_of_ble_eq_true rfl) rfl (fun p e s m below meth c A ls Q S hr hlk hnm hAe hsz hP hK hD hA hZ hS hl hQ => ?_)
  have hi0 : ∀ w ∈ u_ws RX0 TX0 4, w ∈ wsX0_step := by decide +kernel
  have hsz := size_le hww hhh
  refine lv_aload_n S.1 S.2.1 dX0_step_0 rfl (lv_at hl 0 rfl) ?_
  refine k_v (wr := []) (va_runV (As := []) (rest := []) S (mX0_countHeadsBeside l D cI cJ Z _ b ak ah w h K B (by first | with_reducible assumption | omega | exact ⟨by omega, by omega⟩ | assumption) (by first | with_reducible assumption | omega | exact ⟨by omega, by omega⟩ | assumption) (by first | with_reducible assumption | omega | exact ⟨by omega, by omega⟩ | assumption)) (cwV 0 S.2.2.2.2 gX0_step_X0_countHeadsBeside rfl rfl rfl (by decide +kernel) ⟨Nat.le_of_ble_eq_true rfl, Nat.le_of_ble_eq_true rfl⟩) (preV_of hK hP hD hS hA hZ [0, 1, 2] (by decide) rfl 0 0 rfl rfl) rfl rfl hl.1 rfl (lv_room (Nat.le_of_ble_eq_true rfl)) dX0_step_1 ⟨Nat.le_of_ble_eq_true rfl, Nat.le_of_ble_eq_true rfl⟩) hP hD hS hA [0, 1, 2] [] rfl rfl (by decide) (by decide) [0, 1, 2] (by decide) (fun u => [(b, .inr (0, [.int (iI ((w : Nat) : Int)), .int (iI ((h : Nat) : Int)), .ref ak, .ref ah])), (ak, .inl (cI, 100, .inl (aI K))), (ah, .inl (cI, 100, .inl (aI u)))]) (fun u => rfl) (fun u H locs hpo hP hD hS => ?_)
  generalize u = B1 at hpo hP hD
  try dsimp only at hpo
  have hP : va_P D vwCl [(b, .inr (0, [.int (iI ((w : Nat) : Int)), .int (iI ((h : Nat) : Int)), .ref ak, .ref ah])), (ak, .inl (cI, 100, .inl (aI K))), (ah, .inl (cI, 100, .inl (aI B1)))] _ := hP
  have hD : va_D A [(b, .inr (0, [.int (iI ((w : Nat) : Int)), .int (iI ((h : Nat) : Int)), .ref ak, .ref ah])), (ak, .inl (cI, 100, .inl (aI K))), (ah, .inl (cI, 100, .inl (aI B1)))] := hD
  have hB1 := hpo
  refine r_iconst S dX0_step_4 ?_
  refine lv_istore_n (lv' := [(1, .int (iI 0)), (0, .ref b)]) S.1 S.2.1 dX0_step_5 rfl hl (by decide) rfl (fun ls hl => ?_)
  have lp6 : ∀ (fu : Nat) (i : Nat) (K1 : Nat → Int), 100 - i < fu → (i ≤ 100) → (K1 = stepJ w h K i) → ∀ (H : Heap) (locs : List Loc) (ls : Array Slot), va_P D vwCl [(b, .inr (0, [.int (iI ((w : Nat) : Int)), .int (iI ((h : Nat) : Int)), .ref ak, .ref ah])), (ak, .inl (cI, 100, .inl (aI K1))), (ah, .inl (cI, 100, .inl (aI B1)))] H → va_D A [(b, .inr (0, [.int (iI ((w : Nat) : Int)), .int (iI ((h : Nat) : Int)), .ref ak, .ref ah])), (ak, .inl (cI, 100, .inl (aI K1))), (ah, .inl (cI, 100, .inl (aI B1)))] → va_S A s.heap H locs → lv_has ls 2 [(0, .ref b), (1, .int (iI ((i : Nat) : Int)))] → W p l e (rmk 4 0 0 91) s m ([.ref b] : List Value).toArray below meth c H locs 0 0 Q (F0 m 6 ls []) := by
    intro fu
    induction fu with
    | zero => intro i K1 hmu; exact absurd hmu (Nat.not_lt_zero _)
    | succ fu ih_lp6 =>
      intro i K1 hmu hi hK1 H locs ls hP hD hS hl
      refine lv_iload_n S.1 S.2.1 dX0_step_6 rfl (lv_at hl 1 rfl) ?_
      refine r_bipush S dX0_step_7 (by decide) ?_
      refine r_icmp_ge S (tgt := 39) dX0_step_9 (by decide) ⟨by omega, by omega⟩ ⟨by decide, by decide⟩ (fun c9 => ?_) (fun c9 => ?_)
      · subst hQ
        exact e_vret S hr hlk hS (Nat.le_of_ble_eq_true rfl) (Nat.le_of_ble_eq_true rfl) (u := (K1, B1)) (by rw [hK1, show i = 100 by omega]; exact stepJ_end hsz.2) (aft_of hK hP hD) dX0_step_39
      · have hok : okK K1 := by rw [hK1]; exact stepJ_ok hKK i
        have hbz := hB1 i (by omega)
        have hbl := bes_le w h K i (w * h)
        have hbi : i < w * h → B1 i = (arK w h K ((i % w : Nat) : Int) ((i / w : Nat) : Int) 2 : Nat) := fun q => by rw [hbz, bes_ar hww hhh q]
        refine lv_aload_n S.1 S.2.1 dX0_step_12 rfl (lv_at hl 0 rfl) ?_
        refine r_get S hi0 hK hP 0 rfl rfl 2 (by decide) (by decide +kernel) rfl rfl dX0_step_13 ?_
        refine lv_iload_n S.1 S.2.1 dX0_step_16 rfl (lv_at hl 1 rfl) ?_
        refine lv_aload_n S.1 S.2.1 dX0_step_17 rfl (lv_at hl 0 rfl) ?_
        refine r_get S hi0 hK hP 0 rfl rfl 2 (by decide) (by decide +kernel) rfl rfl dX0_step_18 ?_
        refine lv_iload_n S.1 S.2.1 dX0_step_21 rfl (lv_at hl 1 rfl) ?_
        refine r_iald S hK hP 1 0 rfl rfl i (rfl) (by omega) (by decide) dX0_step_22 ?_
        refine lv_aload_n S.1 S.2.1 dX0_step_23 rfl (lv_at hl 0 rfl) ?_
        refine r_get S hi0 hK hP 0 rfl rfl 3 (by decide) (by decide +kernel) rfl rfl dX0_step_24 ?_
        refine lv_iload_n S.1 S.2.1 dX0_step_27 rfl (lv_at hl 1 rfl) ?_
        refine r_iald S hK hP 2 0 rfl rfl i (rfl) (by omega) (by decide) dX0_step_28 ?_
        refine k_i (wr := [(b, .inr (0, [.int (iI ((w : Nat) : Int)), .int (iI ((h : Nat) : Int)), .ref ak, .ref ah])), (ak, .inl (cI, 100, .inl (aI K1))), (ah, .inl (cI, 100, .inl (aI B1)))]) (va_runS (As := [.int (iI (K1 i)), .int (iI (B1 i))]) (rest := [.int (iI ((i : Nat) : Int)), .ref ak]) S (mX0_next l D cI cJ Z _ (K1 i) (B1 i) (hok i (by omega)) (⟨by omega, by omega⟩)) (va_cwS 2 S.2.2.2.2 gX0_step_X0_next rfl rfl rfl (by decide +kernel) ⟨Nat.le_of_ble_eq_true rfl, Nat.le_of_ble_eq_true rfl⟩) (preS_of hK hP hD hS hA hZ [] (by decide) rfl) rfl rfl hl.1 rfl (lv_room (Nat.le_of_ble_eq_true rfl)) dX0_step_29 ⟨Nat.le_of_ble_eq_true rfl, Nat.le_of_ble_eq_true rfl⟩) hP hD hS hA [] [0, 1, 2] rfl rfl (by decide) (by decide) [0, 1, 2] (by decide) (fun u => [(b, .inr (0, [.int (iI ((w : Nat) : Int)), .int (iI ((h : Nat) : Int)), .ref ak, .ref ah])), (ak, .inl (cI, 100, .inl (aI K1))), (ah, .inl (cI, 100, .inl (aI B1)))]) (fun u => rfl) (fun r u H locs hpo hP hD hS => ?_)
        obtain rfl := hpo
        refine r_iast S hK hP hD hS 1 0 rfl rfl i (rfl) (by omega) (by decide) dX0_step_32 [(b, .inr (0, [.int (iI ((w : Nat) : Int)), .int (iI ((h : Nat) : Int)), .ref ak, .ref ah])), (ak, .inl (cI, 100, .inl (aI (upZ K1 i (nextZ (K1 i) (B1 i)))))), (ah, .inl (cI, 100, .inl (aI B1)))] rfl (fun H locs hP hD hS => ?_)
        refine r_iinc S (z := ((i + 1 : Nat) : Int)) (k0 := 1) (lv' := [(1, .int (iI ((i + 1 : Nat) : Int))), (0, .ref b)]) dX0_step_33 hl rfl (by omega) (by decide) rfl (fun ls hl => ?_)
        refine r_goto S (tgt := 6) dX0_step_36 (by decide) ?_
        exact ih_lp6 (i + 1) (upZ K1 i (nextZ (K1 i) (B1 i))) (by omega) (by omega) (by rw [hK1]; exact stepJ_s hTl (by omega) hbi) _ _ _ hP hD hS (lv_sub hl [1, 0] rfl)
  exact lp6 _ 0 K (Nat.lt_succ_self _) (by omega) ((stepJ_0 w h K).symm) _ _ _ hP hD hS (lv_sub hl [1, 0] rfl)
