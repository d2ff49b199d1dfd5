set_option maxHeartbeats 4000000 in
set_option maxRecDepth 100000 in
theorem mX3_forget (l : Launch) (D : va_G) (cI cJ : ClassId) (Z : Nat → Nat) (sz : Nat) (wo : Nat) (fa : Nat) (xa : Nat) (ya : Nat) (F : Nat → Int) (QX : Nat → Int) (QY : Nat → Int) : Met l yX3_forget wsX3_forget (rmk 1 0 0 23) (va_Pc [.ref wo] (preW D [(cI, .int), (cJ, .long)] Z [(wo, .inr (3, [.ref fa, .ref xa, .ref ya])), (fa, .inl (cI, 100, .inl (aI F))), (xa, .inl (cI, 100, .inl (aI QX))), (ya, .inl (cI, 100, .inl (aI QY)))] sz)) (va_Qv (fun (u : Unit) => True) (fun (u : Unit) t => aftW D [(cI, .int), (cJ, .long)] [(wo, .inr (3, [.ref fa, .ref xa, .ref ya])), (fa, .inl (cI, 100, .inl (aI (fillZ F (-1) 100)))), (xa, .inl (cI, 100, .inl (aI QX))), (ya, .inl (cI, 100, .inl (aI QY)))] (va_A [(wo, .inr (3, [.ref fa, .ref xa, .ref ya])), (fa, .inl (cI, 100, .inl (aI F))), (xa, .inl (cI, 100, .inl (aI QX))), (ya, .inl (cI, 100, .inl (aI QY)))] sz) t) (va_A [(wo, .inr (3, [.ref fa, .ref xa, .ref ya])), (fa, .inl (cI, 100, .inl (aI F))), (xa, .inl (cI, 100, .inl (aI QX))), (ya, .inl (cI, 100, .inl (aI QY)))] sz)) 0 0 (va_A [(wo, .inr (3, [.ref fa, .ref xa, .ref ya])), (fa, .inl (cI, 100, .inl (aI F))), (xa, .inl (cI, 100, .inl (aI QX))), (ya, .inl (cI, 100, .inl (aI QY)))] sz) := by
  refine m_of (cc := cX3_forget) (maxL := 1) (ret := none) (Qc := fun A => va_Qv (fun (u : Unit) => True) (fun (u : Unit) t => aftW D [(cI, .int), (cJ, .long)] [(wo, .inr (3, [.ref fa, .ref xa, .ref ya])), (fa, .inl (cI, 100, .inl (aI (fillZ F (-1) 100)))), (xa, .inl (cI, 100, .inl (aI QX))), (ya, .inl (cI, 100, .inl (aI QY)))] A t) A) RX3 [(0, .ref wo)] (by decide) rfl rfl (Nat.le_of_ble_eq_true rfl) rfl (fun p e s m below meth c A ls Q S hr hlk hnm hAe hsz hP hK hD hA hZ hS hl hQ => ?_)
  have hi3 : ∀ w ∈ u_ws RX3 TX3 3, w ∈ wsX3_forget := by decide +kernel
  refine lv_aload_n S.1 S.2.1 dX3_forget_0 rfl (lv_at hl 0 rfl) ?_
  refine r_get S hi3 hK hP 0 rfl rfl 0 (by decide) (by decide +kernel) rfl rfl dX3_forget_1 ?_
  refine r_iconst S dX3_forget_4 ?_
  refine k_v (wr := [(wo, .inr (3, [.ref fa, .ref xa, .ref ya])), (xa, .inl (cI, 100, .inl (aI QX))), (ya, .inl (cI, 100, .inl (aI QY)))]) (va_runS (As := [.ref fa, .int (iI (-1))]) (rest := []) S (mJ7_fill_53178 l D cI cJ Z _ fa F (-1) ) (va_cwS 2 S.2.2.2.2 gX3_forget_J7_fill_53178 rfl rfl rfl (by decide +kernel) ⟨Nat.le_of_ble_eq_true rfl, Nat.le_of_ble_eq_true rfl⟩) (preS_of hK hP hD hS hA hZ [1] (by decide) rfl) rfl rfl hl.1 rfl (lv_room (Nat.le_of_ble_eq_true rfl)) dX3_forget_5 ⟨Nat.le_of_ble_eq_true rfl, Nat.le_of_ble_eq_true rfl⟩) hP hD hS hA [1] [0, 2, 3] rfl rfl (by decide) (by decide) [0, 3, 1, 2] (by decide) (fun u => [(wo, .inr (3, [.ref fa, .ref xa, .ref ya])), (fa, .inl (cI, 100, .inl (aI u))), (xa, .inl (cI, 100, .inl (aI QX))), (ya, .inl (cI, 100, .inl (aI QY)))]) (fun u => rfl) (fun u H locs hpo hP hD hS => ?_)
  generalize u = F1_1 at hpo hP hD
  try dsimp only at hpo
  have hP : va_P D vwCl [(wo, .inr (3, [.ref fa, .ref xa, .ref ya])), (fa, .inl (cI, 100, .inl (aI F1_1))), (xa, .inl (cI, 100, .inl (aI QX))), (ya, .inl (cI, 100, .inl (aI QY)))] _ := hP
  have hD : va_D A [(wo, .inr (3, [.ref fa, .ref xa, .ref ya])), (fa, .inl (cI, 100, .inl (aI F1_1))), (xa, .inl (cI, 100, .inl (aI QX))), (ya, .inl (cI, 100, .inl (aI QY)))] := hD
  have e_F1_1 := hpo
  subst e_F1_1
  subst hQ
  exact e_vret S hr hlk hS (Nat.le_of_ble_eq_true rfl) (Nat.le_of_ble_eq_true rfl) (u := ()) (trivial) (aft_of hK hP hD) dX3_forget_8
set_option maxHeartbeats 4000000 in
set_option maxRecDepth 100000 in
theorem mX3_visit (l : Launch) (D : va_G) (cI cJ : ClassId) (Z : Nat → Nat) (sz : Nat) (wo : Nat) (fa : Nat) (xa : Nat) (ya : Nat) (F : Nat → Int) (QX : Nat → Int) (QY : Nat → Int) (b : Nat) (ak : Nat) (ah : Nat) (w : Nat) (h : Nat) (K : Nat → Int) (B : Nat → Int) (t : Bs) (x : Int) (y : Int) (way : Int) (hww : 3 ≤ w ∧ w ≤ 10) (hhh : 3 ≤ h ∧ h ≤ 10) (hKK : okK K) (hx : -1000 ≤ x ∧ x ≤ 1000) (hy : -1000 ≤ y ∧ y ≤ 1000) (hs : simB w h F QX QY t) (ho : okB w h t) (hw2 : 0 ≤ way ∧ way ≤ t.2.2.2) : Met l yX3_visit wsX3_visit (rmk 1 0 0 22) (va_Pc [.ref wo, .ref b, .int (iI x), .int (iI y), .int (iI way), .int (iI ((t.2.2.2 : Nat) : Int))] (preW D [(cI, .int), (cJ, .long)] Z [(wo, .inr (3, [.ref fa, .ref xa, .ref ya])), (fa, .inl (cI, 100, .inl (aI F))), (xa, .inl (cI, 100, .inl (aI QX))), (ya, .inl (cI, 100, .inl (aI QY))), (b, .inr (0, [.int (iI ((w : Nat) : Int)), .int (iI ((h : Nat) : Int)), .ref ak, .ref ah])), (ak, .inl (cI, 100, .inl (aI K))), (ah, .inl (cI, 100, .inl (aI B)))] sz)) (va_Qi (fun (r : Int32) (u : (Nat → Int) × (Nat → Int) × (Nat → Int)) => r = iI (((visG (vK w h K) way x y t).2.2.2 : Nat) : Int) ∧ simB w h u.1 u.2.1 u.2.2 (visG (vK w h K) way x y t)) (fun (u : (Nat → Int) × (Nat → Int) × (Nat → Int)) t => aftW D [(cI, .int), (cJ, .long)] [(wo, .inr (3, [.ref fa, .ref xa, .ref ya])), (fa, .inl (cI, 100, .inl (aI u.1))), (xa, .inl (cI, 100, .inl (aI u.2.1))), (ya, .inl (cI, 100, .inl (aI u.2.2))), (b, .inr (0, [.int (iI ((w : Nat) : Int)), .int (iI ((h : Nat) : Int)), .ref ak, .ref ah])), (ak, .inl (cI, 100, .inl (aI K))), (ah, .inl (cI, 100, .inl (aI B)))] (va_A [(wo, .inr (3, [.ref fa, .ref xa, .ref ya])), (fa, .inl (cI, 100, .inl (aI F))), (xa, .inl (cI, 100, .inl (aI QX))), (ya, .inl (cI, 100, .inl (aI QY))), (b, .inr (0, [.int (iI ((w : Nat) : Int)), .int (iI ((h : Nat) : Int)), .ref ak, .ref ah])), (ak, .inl (cI, 100, .inl (aI K))), (ah, .inl (cI, 100, .inl (aI B)))] sz) t) (va_A [(wo, .inr (3, [.ref fa, .ref xa, .ref ya])), (fa, .inl (cI, 100, .inl (aI F))), (xa, .inl (cI, 100, .inl (aI QX))), (ya, .inl (cI, 100, .inl (aI QY))), (b, .inr (0, [.int (iI ((w : Nat) : Int)), .int (iI ((h : Nat) : Int)), .ref ak, .ref ah])), (ak, .inl (cI, 100, .inl (aI K))), (ah, .inl (cI, 100, .inl (aI B)))] sz)) 0 0 (va_A [(wo, .inr (3, [.ref fa, .ref xa, .ref ya])), (fa, .inl (cI, 100, .inl (aI F))), (xa, .inl (cI, 100, .inl (aI QX))), (ya, .inl (cI, 100, .inl (aI QY))), (b, .inr (0, [.int (iI ((w : Nat) : Int)), .int (iI ((h : Nat) : Int)), .ref ak, .ref ah])), (ak, .inl (cI, 100, .inl (aI K))), (ah, .inl (cI, 100, .inl (aI B)))] sz) := by
  refine m_of (cc := cX3_visit) (maxL := 7) (ret := (some .int)) (Qc := fun A => va_Qi (fun (r : Int32) (u : (Nat → Int) × (Nat → Int) × (Nat → Int)) => r = iI (((visG (vK w h K) way x y t).2.2.2 : Nat) : Int) ∧ simB w h u.1 u.2.1 u.2.2 (visG (vK w h K) way x y t)) (fun (u : (Nat → Int) × (Nat → Int) × (Nat → Int)) t => aftW D [(cI, .int), (cJ, .long)] [(wo, .inr (3, [.ref fa, .ref xa, .ref ya])), (fa, .inl (cI, 100, .inl (aI u.1))), (xa, .inl (cI, 100, .inl (aI u.2.1))), (ya, .inl (cI, 100, .inl (aI u.2.2))), (b, .inr (0, [.int (iI ((w : Nat) : Int)), .int (iI ((h : Nat) : Int)), .ref ak, .ref ah])), (ak, .inl (cI, 100, .inl (aI K))), (ah, .inl (cI, 100, .inl (aI B)))] A t) A) RX3 [(0, .ref wo), (1, .ref b), (2, .int (iI x)), (3, .int (iI y)), (4, .int (iI way)), (5, .int (iI ((t.2.2.2 : Nat) : Int)))] (by decide) rfl rfl (Nat.le_of_ble_eq_true rfl) rfl (fun p e s m below meth c A ls Q S hr hlk hnm hAe hsz hP hK hD hA hZ hS hl hQ => ?_)
  have hi3 : ∀ w ∈ u_ws RX3 TX3 3, w ∈ wsX3_visit := by decide +kernel
  have hsz := size_le hww hhh
  have hcr := cellZ_100 hww hhh x y
  have hkr := vK_rng hKK w h x y
  have hln := okB_len ho
  refine lv_aload_n S.1 S.2.1 dX3_visit_0 rfl (lv_at hl 1 rfl) ?_
  refine lv_iload_n S.1 S.2.1 dX3_visit_1 rfl (lv_at hl 2 rfl) ?_
  refine lv_iload_n S.1 S.2.1 dX3_visit_2 rfl (lv_at hl 3 rfl) ?_
  refine k_i (wr := [(wo, .inr (3, [.ref fa, .ref xa, .ref ya])), (fa, .inl (cI, 100, .inl (aI F))), (xa, .inl (cI, 100, .inl (aI QX))), (ya, .inl (cI, 100, .inl (aI QY)))]) (va_runV (As := [.int (iI x), .int (iI y)]) (rest := []) S (mX0_cell l D cI cJ Z _ b ak ah w h K B x y (by first | assumption | omega | exact ⟨by omega, by omega⟩) (by first | assumption | omega | exact ⟨by omega, by omega⟩) (by first | assumption | omega | exact ⟨by omega, by omega⟩) (by first | assumption | omega | exact ⟨by omega, by omega⟩)) (cwV 2 S.2.2.2.2 gX3_visit_X0_cell rfl rfl rfl (by decide +kernel) ⟨Nat.le_of_ble_eq_true rfl, Nat.le_of_ble_eq_true rfl⟩) (preV_of hK hP hD hS hA hZ [4, 5, 6] (by decide) rfl 0 0 rfl rfl) rfl rfl hl.1 rfl (lv_room (Nat.le_of_ble_eq_true rfl)) dX3_visit_3 ⟨Nat.le_of_ble_eq_true rfl, Nat.le_of_ble_eq_true rfl⟩) hP hD hS hA [4, 5, 6] [0, 1, 2, 3] rfl rfl (by decide) (by decide) [0, 1, 2, 3, 4, 5, 6] (by decide) (fun u => [(wo, .inr (3, [.ref fa, .ref xa, .ref ya])), (fa, .inl (cI, 100, .inl (aI F))), (xa, .inl (cI, 100, .inl (aI QX))), (ya, .inl (cI, 100, .inl (aI QY))), (b, .inr (0, [.int (iI ((w : Nat) : Int)), .int (iI ((h : Nat) : Int)), .ref ak, .ref ah])), (ak, .inl (cI, 100, .inl (aI K))), (ah, .inl (cI, 100, .inl (aI B)))]) (fun u => rfl) (fun r u H locs hpo hP hD hS => ?_)
  obtain rfl := hpo
  refine lv_istore (lv' := [(6, .int (iI (cellZ w h x y))), (0, .ref wo), (1, .ref b), (2, .int (iI x)), (3, .int (iI y)), (4, .int (iI way)), (5, .int (iI ((t.2.2.2 : Nat) : Int)))]) S.1 S.2.1 dX3_visit_6 hl (by decide) rfl (fun ls hl => ?_)
  refine lv_aload_n S.1 S.2.1 dX3_visit_8 rfl (lv_at hl 2 rfl) ?_
  refine lv_iload S.1 S.2.1 dX3_visit_9 (lv_at hl 0 rfl) ?_
  refine k_i (wr := [(wo, .inr (3, [.ref fa, .ref xa, .ref ya])), (fa, .inl (cI, 100, .inl (aI F))), (xa, .inl (cI, 100, .inl (aI QX))), (ya, .inl (cI, 100, .inl (aI QY)))]) (va_runV (As := [.int (iI (cellZ w h x y))]) (rest := []) S (mX0_kind l D cI cJ Z _ b ak ah w h K B (cellZ w h x y) (by first | assumption | omega | exact ⟨by omega, by omega⟩) (by first | assumption | omega | exact ⟨by omega, by omega⟩) (by first | assumption | omega | exact ⟨by omega, by omega⟩)) (cwV 1 S.2.2.2.2 gX3_visit_X0_kind rfl rfl rfl (by decide +kernel) ⟨Nat.le_of_ble_eq_true rfl, Nat.le_of_ble_eq_true rfl⟩) (preV_of hK hP hD hS hA hZ [4, 5, 6] (by decide) rfl 0 0 rfl rfl) rfl rfl hl.1 rfl (lv_room (Nat.le_of_ble_eq_true rfl)) dX3_visit_11 ⟨Nat.le_of_ble_eq_true rfl, Nat.le_of_ble_eq_true rfl⟩) hP hD hS hA [4, 5, 6] [0, 1, 2, 3] rfl rfl (by decide) (by decide) [0, 1, 2, 3, 4, 5, 6] (by decide) (fun u => [(wo, .inr (3, [.ref fa, .ref xa, .ref ya])), (fa, .inl (cI, 100, .inl (aI F))), (xa, .inl (cI, 100, .inl (aI QX))), (ya, .inl (cI, 100, .inl (aI QY))), (b, .inr (0, [.int (iI ((w : Nat) : Int)), .int (iI ((h : Nat) : Int)), .ref ak, .ref ah])), (ak, .inl (cI, 100, .inl (aI K))), (ah, .inl (cI, 100, .inl (aI B)))]) (fun u => rfl) (fun r u H locs hpo hP hD hS => ?_)
  obtain rfl := hpo
  refine r_if_eq S (tgt := 35) dX3_visit_14 (by decide) ⟨by have := hkr.1; exact Int.le_trans (by decide) this, by have := hkr.2; exact Int.lt_of_le_of_lt this (by decide)⟩ (fun c14 => ?_) (fun c14 => ?_)
  · have c14 : vK w h K x y = 0 := c14
    refine lv_iload S.1 S.2.1 dX3_visit_35 (lv_at hl 6 rfl) ?_
    subst hQ
    exact e_iret S hr hlk hS (Nat.le_of_ble_eq_true rfl) (Nat.le_of_ble_eq_true rfl) (u := (F, QX, QY)) (by first | (rw [visG_skip (Or.inl c14)]; exact ⟨rfl, hs⟩) | (rw [visG_skip (Or.inr (by rw [← hfa]; exact c25))]; exact ⟨rfl, hs⟩)) (aft_of hK hP hD) dX3_visit_37
  · have c14 : vK w h K x y ≠ 0 := c14
    obtain ⟨i1, i2, i3, i4⟩ := vK_in c14
    have hci : 0 ≤ cellZ w h x y := by rw [cellZ_in i1 i2 i3 i4]; exact (idx_lt i1 i2 i3 i4).1
    have hfa := sim_at hs i1 i2 i3 i4
    have hfr := ho.2.2 x y
    refine lv_aload_n S.1 S.2.1 dX3_visit_17 rfl (lv_at hl 1 rfl) ?_
    refine r_get S hi3 hK hP 0 rfl rfl 0 (by decide) (by decide +kernel) rfl rfl dX3_visit_18 ?_
    refine lv_iload S.1 S.2.1 dX3_visit_21 (lv_at hl 0 rfl) ?_
    refine r_iald S hK hP 1 0 rfl rfl ((cellZ w h x y).toNat) (by omega) (by omega) (by decide) dX3_visit_23 ?_
    refine r_iconst S dX3_visit_24 ?_
    refine r_icmp_ne S (tgt := 35) dX3_visit_25 (by decide) ⟨by rw [hfa]; omega, by rw [hfa]; omega⟩ ⟨by decide, by decide⟩ (fun c25 => ?_) (fun c25 => ?_)
    · refine lv_iload S.1 S.2.1 dX3_visit_35 (lv_at hl 6 rfl) ?_
      subst hQ
      exact e_iret S hr hlk hS (Nat.le_of_ble_eq_true rfl) (Nat.le_of_ble_eq_true rfl) (u := (F, QX, QY)) (by first | (rw [visG_skip (Or.inl c14)]; exact ⟨rfl, hs⟩) | (rw [visG_skip (Or.inr (by rw [← hfa]; exact c25))]; exact ⟨rfl, hs⟩)) (aft_of hK hP hD) dX3_visit_37
    · have hm1 : t.1 x y = -1 := by rw [← hfa]; exact c25
      have hrm := okB_room ho i1 i2 i3 i4 hm1
      refine lv_iload S.1 S.2.1 dX3_visit_28 (lv_at hl 6 rfl) ?_
      refine r_bipush S dX3_visit_30 (by decide) ?_
      refine r_icmp_lt S (tgt := 38) dX3_visit_32 (by decide) ⟨by omega, by omega⟩ ⟨by decide, by decide⟩ (fun c32 => ?_) (fun c32 => ?_)
      · refine lv_aload_n S.1 S.2.1 dX3_visit_38 rfl (lv_at hl 1 rfl) ?_
        refine r_get S hi3 hK hP 0 rfl rfl 0 (by decide) (by decide +kernel) rfl rfl dX3_visit_39 ?_
        refine lv_iload S.1 S.2.1 dX3_visit_42 (lv_at hl 0 rfl) ?_
        refine lv_iload S.1 S.2.1 dX3_visit_44 (lv_at hl 5 rfl) ?_
        refine r_iast S hK hP hD hS 1 0 rfl rfl ((cellZ w h x y).toNat) (by omega) (by omega) (by decide) dX3_visit_46 [(wo, .inr (3, [.ref fa, .ref xa, .ref ya])), (fa, .inl (cI, 100, .inl (aI (upZ F ((cellZ w h x y).toNat) way)))), (xa, .inl (cI, 100, .inl (aI QX))), (ya, .inl (cI, 100, .inl (aI QY))), (b, .inr (0, [.int (iI ((w : Nat) : Int)), .int (iI ((h : Nat) : Int)), .ref ak, .ref ah])), (ak, .inl (cI, 100, .inl (aI K))), (ah, .inl (cI, 100, .inl (aI B)))] rfl (fun H locs hP hD hS => ?_)
        refine lv_aload_n S.1 S.2.1 dX3_visit_47 rfl (lv_at hl 1 rfl) ?_
        refine r_get S hi3 hK hP 0 rfl rfl 1 (by decide) (by decide +kernel) rfl rfl dX3_visit_48 ?_
        refine lv_iload S.1 S.2.1 dX3_visit_51 (lv_at hl 6 rfl) ?_
        refine lv_iload_n S.1 S.2.1 dX3_visit_53 rfl (lv_at hl 3 rfl) ?_
        refine r_iast S hK hP hD hS 2 0 rfl rfl t.2.2.2 (rfl) (by omega) (by decide) dX3_visit_54 [(wo, .inr (3, [.ref fa, .ref xa, .ref ya])), (fa, .inl (cI, 100, .inl (aI (upZ F ((cellZ w h x y).toNat) way)))), (xa, .inl (cI, 100, .inl (aI (upZ QX t.2.2.2 x)))), (ya, .inl (cI, 100, .inl (aI QY))), (b, .inr (0, [.int (iI ((w : Nat) : Int)), .int (iI ((h : Nat) : Int)), .ref ak, .ref ah])), (ak, .inl (cI, 100, .inl (aI K))), (ah, .inl (cI, 100, .inl (aI B)))] rfl (fun H locs hP hD hS => ?_)
        refine lv_aload_n S.1 S.2.1 dX3_visit_55 rfl (lv_at hl 1 rfl) ?_
        refine r_get S hi3 hK hP 0 rfl rfl 2 (by decide) (by decide +kernel) rfl rfl dX3_visit_56 ?_
        refine lv_iload S.1 S.2.1 dX3_visit_59 (lv_at hl 6 rfl) ?_
        refine lv_iload_n S.1 S.2.1 dX3_visit_61 rfl (lv_at hl 4 rfl) ?_
        refine r_iast S hK hP hD hS 3 0 rfl rfl t.2.2.2 (rfl) (by omega) (by decide) dX3_visit_62 [(wo, .inr (3, [.ref fa, .ref xa, .ref ya])), (fa, .inl (cI, 100, .inl (aI (upZ F ((cellZ w h x y).toNat) way)))), (xa, .inl (cI, 100, .inl (aI (upZ QX t.2.2.2 x)))), (ya, .inl (cI, 100, .inl (aI (upZ QY t.2.2.2 y)))), (b, .inr (0, [.int (iI ((w : Nat) : Int)), .int (iI ((h : Nat) : Int)), .ref ak, .ref ah])), (ak, .inl (cI, 100, .inl (aI K))), (ah, .inl (cI, 100, .inl (aI B)))] rfl (fun H locs hP hD hS => ?_)
        refine lv_iload S.1 S.2.1 dX3_visit_63 (lv_at hl 6 rfl) ?_
        refine r_iconst S dX3_visit_65 ?_
        refine r_iadd S dX3_visit_66 (z := ((t.2.2.2 + 1 : Nat) : Int)) (by omega) ?_
        subst hQ
        exact e_iret S hr hlk hS (Nat.le_of_ble_eq_true rfl) (Nat.le_of_ble_eq_true rfl) (u := (upZ F ((cellZ w h x y).toNat) way, upZ QX t.2.2.2 x, upZ QY t.2.2.2 y)) (⟨by rw [visG_new c14 hm1], sim_new hs i1 i2 i3 i4 c14 hm1⟩) (aft_of hK hP hD) dX3_visit_67
      · exact absurd c32 (by omega)
set_option maxHeartbeats 4000000 in
set_option maxRecDepth 100000 in
theorem mX3_reach (l : Launch) (D : va_G) (cI cJ : ClassId) (Z : Nat → Nat) (sz : Nat) (wo : Nat) (fa : Nat) (xa : Nat) (ya : Nat) (F : Nat → Int) (QX : Nat → Int) (QY : Nat → Int) (b : Nat) (ak : Nat) (ah : Nat) (w : Nat) (h : Nat) (K : Nat → Int) (B : Nat → Int) (m0 : Int → Int → Int) (x : Int) (y : Int) (hww : 3 ≤ w ∧ w ≤ 10) (hhh : 3 ≤ h ∧ h ≤ 10) (hKK : okK K) (hx : -1000 ≤ x ∧ x ≤ 1000) (hy : -1000 ≤ y ∧ y ≤ 1000) (hs : ∀ k, k < w * h → F k = m0 ((k % w : Nat) : Int) ((k / w : Nat) : Int)) (hm : ∀ x y, -1 ≤ m0 x y ∧ m0 x y ≤ 100) : Met l yX3_reach wsX3_reach (rmk 2 0 0 48) (va_Pc [.ref wo, .ref b, .int (iI x), .int (iI y)] (preW D [(cI, .int), (cJ, .long)] Z [(wo, .inr (3, [.ref fa, .ref xa, .ref ya])), (fa, .inl (cI, 100, .inl (aI F))), (xa, .inl (cI, 100, .inl (aI QX))), (ya, .inl (cI, 100, .inl (aI QY))), (b, .inr (0, [.int (iI ((w : Nat) : Int)), .int (iI ((h : Nat) : Int)), .ref ak, .ref ah])), (ak, .inl (cI, 100, .inl (aI K))), (ah, .inl (cI, 100, .inl (aI B)))] sz)) (va_Qi (fun (r : Int32) (u : (Nat → Int) × (Nat → Int) × (Nat → Int)) => r = iI (((bfsG (vK w h K) x y m0).2.2.2 : Nat) : Int) ∧ simB w h u.1 u.2.1 u.2.2 (bfsG (vK w h K) x y m0)) (fun (u : (Nat → Int) × (Nat → Int) × (Nat → Int)) t => aftW D [(cI, .int), (cJ, .long)] [(wo, .inr (3, [.ref fa, .ref xa, .ref ya])), (fa, .inl (cI, 100, .inl (aI u.1))), (xa, .inl (cI, 100, .inl (aI u.2.1))), (ya, .inl (cI, 100, .inl (aI u.2.2))), (b, .inr (0, [.int (iI ((w : Nat) : Int)), .int (iI ((h : Nat) : Int)), .ref ak, .ref ah])), (ak, .inl (cI, 100, .inl (aI K))), (ah, .inl (cI, 100, .inl (aI B)))] (va_A [(wo, .inr (3, [.ref fa, .ref xa, .ref ya])), (fa, .inl (cI, 100, .inl (aI F))), (xa, .inl (cI, 100, .inl (aI QX))), (ya, .inl (cI, 100, .inl (aI QY))), (b, .inr (0, [.int (iI ((w : Nat) : Int)), .int (iI ((h : Nat) : Int)), .ref ak, .ref ah])), (ak, .inl (cI, 100, .inl (aI K))), (ah, .inl (cI, 100, .inl (aI B)))] sz) t) (va_A [(wo, .inr (3, [.ref fa, .ref xa, .ref ya])), (fa, .inl (cI, 100, .inl (aI F))), (xa, .inl (cI, 100, .inl (aI QX))), (ya, .inl (cI, 100, .inl (aI QY))), (b, .inr (0, [.int (iI ((w : Nat) : Int)), .int (iI ((h : Nat) : Int)), .ref ak, .ref ah])), (ak, .inl (cI, 100, .inl (aI K))), (ah, .inl (cI, 100, .inl (aI B)))] sz)) 0 0 (va_A [(wo, .inr (3, [.ref fa, .ref xa, .ref ya])), (fa, .inl (cI, 100, .inl (aI F))), (xa, .inl (cI, 100, .inl (aI QX))), (ya, .inl (cI, 100, .inl (aI QY))), (b, .inr (0, [.int (iI ((w : Nat) : Int)), .int (iI ((h : Nat) : Int)), .ref ak, .ref ah])), (ak, .inl (cI, 100, .inl (aI K))), (ah, .inl (cI, 100, .inl (aI B)))] sz) := by
  refine m_of (cc := cX3_reach) (maxL := 8) (ret := (some .int)) (Qc := fun A => va_Qi (fun (r : Int32) (u : (Nat → Int) × (Nat → Int) × (Nat → Int)) => r = iI (((bfsG (vK w h K) x y m0).2.2.2 : Nat) : Int) ∧ simB w h u.1 u.2.1 u.2.2 (bfsG (vK w h K) x y m0)) (fun (u : (Nat → Int) × (Nat → Int) × (Nat → Int)) t => aftW D [(cI, .int), (cJ, .long)] [(wo, .inr (3, [.ref fa, .ref xa, .ref ya])), (fa, .inl (cI, 100, .inl (aI u.1))), (xa, .inl (cI, 100, .inl (aI u.2.1))), (ya, .inl (cI, 100, .inl (aI u.2.2))), (b, .inr (0, [.int (iI ((w : Nat) : Int)), .int (iI ((h : Nat) : Int)), .ref ak, .ref ah])), (ak, .inl (cI, 100, .inl (aI K))), (ah, .inl (cI, 100, .inl (aI B)))] A t) A) RX3 [(0, .ref wo), (1, .ref b), (2, .int (iI x)), (3, .int (iI y))] (by decide) rfl rfl (Nat.le_of_ble_eq_true rfl) rfl (fun p e s m below meth c A ls Q S hr hlk hnm hAe hsz hP hK hD hA hZ hS hl hQ => ?_)
  have hi3 : ∀ w ∈ u_ws RX3 TX3 3, w ∈ wsX3_reach := by decide +kernel
  have hsz := size_le hww hhh
  refine lv_aload_n S.1 S.2.1 dX3_reach_0 rfl (lv_at hl 0 rfl) ?_
  refine lv_aload_n S.1 S.2.1 dX3_reach_1 rfl (lv_at hl 1 rfl) ?_
  refine lv_iload_n S.1 S.2.1 dX3_reach_2 rfl (lv_at hl 2 rfl) ?_
  refine lv_iload_n S.1 S.2.1 dX3_reach_3 rfl (lv_at hl 3 rfl) ?_
  refine r_iconst S dX3_reach_4 ?_
  refine r_iconst S dX3_reach_5 ?_
  refine k_i (wr := []) (va_runV (As := [.ref b, .int (iI x), .int (iI y), .int (iI 0), .int (iI 0)]) (rest := []) S (mX3_visit l D cI cJ Z _ wo fa xa ya F QX QY b ak ah w h K B ((m0, fun _ => 0, fun _ => 0, 0) : Bs) x y 0 (by first | assumption | omega | exact ⟨by omega, by omega⟩) (by first | assumption | omega | exact ⟨by omega, by omega⟩) (by first | assumption | omega | exact ⟨by omega, by omega⟩) (by first | assumption | omega | exact ⟨by omega, by omega⟩) (by first | assumption | omega | exact ⟨by omega, by omega⟩) (⟨hs, fun j hj => absurd hj (Nat.not_lt_zero j)⟩) (⟨fun j hj => absurd hj (Nat.not_lt_zero j), fun i j _ hj => absurd hj (Nat.not_lt_zero j), hm⟩) (⟨Int.le_refl 0, Int.le_refl 0⟩)) (cwV 5 S.2.2.2.2 gX3_reach_X3_visit rfl rfl rfl (by decide +kernel) ⟨Nat.le_of_ble_eq_true rfl, Nat.le_of_ble_eq_true rfl⟩) (preV_of hK hP hD hS hA hZ [0, 1, 2, 3, 4, 5, 6] (by decide) rfl 0 3 rfl rfl) rfl rfl hl.1 rfl (lv_room (Nat.le_of_ble_eq_true rfl)) dX3_reach_6 ⟨Nat.le_of_ble_eq_true rfl, Nat.le_of_ble_eq_true rfl⟩) hP hD hS hA [0, 1, 2, 3, 4, 5, 6] [] rfl rfl (by decide) (by decide) [0, 1, 2, 3, 4, 5, 6] (by decide) (fun u => [(wo, .inr (3, [.ref fa, .ref xa, .ref ya])), (fa, .inl (cI, 100, .inl (aI u.1))), (xa, .inl (cI, 100, .inl (aI u.2.1))), (ya, .inl (cI, 100, .inl (aI u.2.2))), (b, .inr (0, [.int (iI ((w : Nat) : Int)), .int (iI ((h : Nat) : Int)), .ref ak, .ref ah])), (ak, .inl (cI, 100, .inl (aI K))), (ah, .inl (cI, 100, .inl (aI B)))]) (fun u => rfl) (fun r u H locs hpo hP hD hS => ?_)
  obtain ⟨Fa, Qa, Qb⟩ := u
  try dsimp only at hpo
  have hP : va_P D vwCl [(wo, .inr (3, [.ref fa, .ref xa, .ref ya])), (fa, .inl (cI, 100, .inl (aI Fa))), (xa, .inl (cI, 100, .inl (aI Qa))), (ya, .inl (cI, 100, .inl (aI Qb))), (b, .inr (0, [.int (iI ((w : Nat) : Int)), .int (iI ((h : Nat) : Int)), .ref ak, .ref ah])), (ak, .inl (cI, 100, .inl (aI K))), (ah, .inl (cI, 100, .inl (aI B)))] _ := hP
  have hD : va_D A [(wo, .inr (3, [.ref fa, .ref xa, .ref ya])), (fa, .inl (cI, 100, .inl (aI Fa))), (xa, .inl (cI, 100, .inl (aI Qa))), (ya, .inl (cI, 100, .inl (aI Qb))), (b, .inr (0, [.int (iI ((w : Nat) : Int)), .int (iI ((h : Nat) : Int)), .ref ak, .ref ah])), (ak, .inl (cI, 100, .inl (aI K))), (ah, .inl (cI, 100, .inl (aI B)))] := hD
  obtain ⟨rfl, hs1⟩ := hpo
  refine lv_istore (lv' := [(4, .int (iI (((visG (vK w h K) 0 x y ((m0, fun _ => 0, fun _ => 0, 0) : Bs)).2.2.2 : Nat) : Int))), (0, .ref wo), (1, .ref b), (2, .int (iI x)), (3, .int (iI y))]) S.1 S.2.1 dX3_reach_9 hl (by decide) rfl (fun ls hl => ?_)
  refine r_iconst S dX3_reach_11 ?_
  refine lv_istore (lv' := [(5, .int (iI 0)), (4, .int (iI (((visG (vK w h K) 0 x y ((m0, fun _ => 0, fun _ => 0, 0) : Bs)).2.2.2 : Nat) : Int))), (0, .ref wo), (1, .ref b), (2, .int (iI x)), (3, .int (iI y))]) S.1 S.2.1 dX3_reach_12 hl (by decide) rfl (fun ls hl => ?_)
  have lp14 : ∀ (n : Nat) (i : Nat) (T : Bs) (F1 : Nat → Int) (QX1 : Nat → Int) (QY1 : Nat → Int), w * h - i < n → (T = bfsI (vK w h K) x y m0 i) → (simB w h F1 QX1 QY1 T) → (okB w h T) → (i ≤ T.2.2.2) → ∀ (H : Heap) (locs : List Loc) (ls : Array Slot), va_P D vwCl [(wo, .inr (3, [.ref fa, .ref xa, .ref ya])), (fa, .inl (cI, 100, .inl (aI F1))), (xa, .inl (cI, 100, .inl (aI QX1))), (ya, .inl (cI, 100, .inl (aI QY1))), (b, .inr (0, [.int (iI ((w : Nat) : Int)), .int (iI ((h : Nat) : Int)), .ref ak, .ref ah])), (ak, .inl (cI, 100, .inl (aI K))), (ah, .inl (cI, 100, .inl (aI B)))] H → va_D A [(wo, .inr (3, [.ref fa, .ref xa, .ref ya])), (fa, .inl (cI, 100, .inl (aI F1))), (xa, .inl (cI, 100, .inl (aI QX1))), (ya, .inl (cI, 100, .inl (aI QY1))), (b, .inr (0, [.int (iI ((w : Nat) : Int)), .int (iI ((h : Nat) : Int)), .ref ak, .ref ah])), (ak, .inl (cI, 100, .inl (aI K))), (ah, .inl (cI, 100, .inl (aI B)))] → va_S A s.heap H locs → lv_has ls 8 [(0, .ref wo), (1, .ref b), (2, .int (iI x)), (3, .int (iI y)), (4, .int (iI ((T.2.2.2 : Nat) : Int))), (5, .int (iI ((i : Nat) : Int)))] → W p l e (rmk 2 0 0 48) s m ([.ref wo, .ref b, .int (iI x), .int (iI y)] : List Value).toArray below meth c H locs 0 0 Q (F0 m 14 ls []) := by
    intro n
    induction n with
    | zero => intro i T F1 QX1 QY1 hmu; exact absurd hmu (Nat.not_lt_zero _)
    | succ n ih_lp14 =>
      intro i T F1 QX1 QY1 hmu hT hsT hoT hiT H locs ls hP hD hS hl
      refine lv_iload S.1 S.2.1 dX3_reach_14 (lv_at hl 5 rfl) ?_
      refine lv_iload S.1 S.2.1 dX3_reach_16 (lv_at hl 4 rfl) ?_
      refine r_icmp_ge S (tgt := 109) dX3_reach_18 (by decide) ⟨by omega, by have := okB_len hoT; omega⟩ ⟨by omega, by have := okB_len hoT; omega⟩ (fun c18 => ?_) (fun c18 => ?_)
      · have hln := okB_len hoT
        refine lv_iload S.1 S.2.1 dX3_reach_109 (lv_at hl 4 rfl) ?_
        subst hQ
        exact e_iret S hr hlk hS (Nat.le_of_ble_eq_true rfl) (Nat.le_of_ble_eq_true rfl) (u := (F1, QX1, QY1)) (by rw [bfs_done (i := i) (by rw [← hT]; omega) (by omega), ← hT]; exact ⟨rfl, hsT⟩) (aft_of hK hP hD) dX3_reach_111
      · obtain ⟨q1, q2⟩ := hsT.2 i (by omega)
        obtain ⟨o1, o2, o3, o4, o5, o6⟩ := hoT.1 i (by omega)
        have hln := okB_len hoT
        refine lv_aload_n S.1 S.2.1 dX3_reach_21 rfl (lv_at hl 0 rfl) ?_
        refine r_get S hi3 hK hP 0 rfl rfl 0 (by decide) (by decide +kernel) rfl rfl dX3_reach_22 ?_
        refine lv_aload_n S.1 S.2.1 dX3_reach_25 rfl (lv_at hl 1 rfl) ?_
        refine lv_aload_n S.1 S.2.1 dX3_reach_26 rfl (lv_at hl 0 rfl) ?_
        refine r_get S hi3 hK hP 0 rfl rfl 1 (by decide) (by decide +kernel) rfl rfl dX3_reach_27 ?_
        refine lv_iload S.1 S.2.1 dX3_reach_30 (lv_at hl 5 rfl) ?_
        refine r_iald S hK hP 2 0 rfl rfl i (rfl) (by omega) (by decide) dX3_reach_32 ?_
        refine lv_aload_n S.1 S.2.1 dX3_reach_33 rfl (lv_at hl 0 rfl) ?_
        refine r_get S hi3 hK hP 0 rfl rfl 2 (by decide) (by decide +kernel) rfl rfl dX3_reach_34 ?_
        refine lv_iload S.1 S.2.1 dX3_reach_37 (lv_at hl 5 rfl) ?_
        refine r_iald S hK hP 3 0 rfl rfl i (rfl) (by omega) (by decide) dX3_reach_39 ?_
        refine k_i (wr := [(wo, .inr (3, [.ref fa, .ref xa, .ref ya])), (fa, .inl (cI, 100, .inl (aI F1))), (xa, .inl (cI, 100, .inl (aI QX1))), (ya, .inl (cI, 100, .inl (aI QY1)))]) (va_runV (As := [.int (iI (QX1 i)), .int (iI (QY1 i))]) (rest := [.ref fa]) S (mX0_cell l D cI cJ Z _ b ak ah w h K B (QX1 i) (QY1 i) (by first | assumption | omega | exact ⟨by omega, by omega⟩) (by first | assumption | omega | exact ⟨by omega, by omega⟩) (by first | assumption | omega | exact ⟨by omega, by omega⟩) (by first | assumption | omega | exact ⟨by omega, by omega⟩)) (cwV 2 S.2.2.2.2 gX3_reach_X0_cell rfl rfl rfl (by decide +kernel) ⟨Nat.le_of_ble_eq_true rfl, Nat.le_of_ble_eq_true rfl⟩) (preV_of hK hP hD hS hA hZ [4, 5, 6] (by decide) rfl 0 0 rfl rfl) rfl rfl hl.1 rfl (lv_room (Nat.le_of_ble_eq_true rfl)) dX3_reach_40 ⟨Nat.le_of_ble_eq_true rfl, Nat.le_of_ble_eq_true rfl⟩) hP hD hS hA [4, 5, 6] [0, 1, 2, 3] rfl rfl (by decide) (by decide) [0, 1, 2, 3, 4, 5, 6] (by decide) (fun u => [(wo, .inr (3, [.ref fa, .ref xa, .ref ya])), (fa, .inl (cI, 100, .inl (aI F1))), (xa, .inl (cI, 100, .inl (aI QX1))), (ya, .inl (cI, 100, .inl (aI QY1))), (b, .inr (0, [.int (iI ((w : Nat) : Int)), .int (iI ((h : Nat) : Int)), .ref ak, .ref ah])), (ak, .inl (cI, 100, .inl (aI K))), (ah, .inl (cI, 100, .inl (aI B)))]) (fun u => rfl) (fun r u H locs hpo hP hD hS => ?_)
        obtain rfl := hpo
        have hcr := cellZ_100 hww hhh (QX1 i) (QY1 i)
        have hci : 0 ≤ cellZ w h (QX1 i) (QY1 i) := by rw [q1, q2, cellZ_in o1 o2 o3 o4]; exact (idx_lt o1 o2 o3 o4).1
        have hfa : F1 (cellZ w h (QX1 i) (QY1 i)).toNat = T.1 (T.2.1 i) (T.2.2.1 i) := by rw [q1, q2]; exact sim_at hsT o1 o2 o3 o4
        refine r_iald S hK hP 1 0 rfl rfl ((cellZ w h (QX1 i) (QY1 i)).toNat) (by omega) (by omega) (by decide) dX3_reach_43 ?_
        refine r_iconst S dX3_reach_44 ?_
        refine r_iadd S dX3_reach_45 (z := (T.1 (T.2.1 i) (T.2.2.1 i) + 1)) (by rw [hfa]) ?_
        refine lv_istore (lv' := [(6, .int (iI (T.1 (T.2.1 i) (T.2.2.1 i) + 1))), (0, .ref wo), (1, .ref b), (2, .int (iI x)), (3, .int (iI y)), (4, .int (iI ((T.2.2.2 : Nat) : Int))), (5, .int (iI ((i : Nat) : Int)))]) S.1 S.2.1 dX3_reach_46 hl (by decide) rfl (fun ls hl => ?_)
        refine r_iconst S dX3_reach_48 ?_
        refine lv_istore (lv' := [(7, .int (iI 0)), (6, .int (iI (T.1 (T.2.1 i) (T.2.2.1 i) + 1))), (0, .ref wo), (1, .ref b), (2, .int (iI x)), (3, .int (iI y)), (4, .int (iI ((T.2.2.2 : Nat) : Int))), (5, .int (iI ((i : Nat) : Int)))]) S.1 S.2.1 dX3_reach_49 hl (by decide) rfl (fun ls hl => ?_)
        have lp51 : ∀ (n : Nat) (d : Nat) (T2 : Bs) (F2 : Nat → Int) (QX2 : Nat → Int) (QY2 : Nat → Int), 8 - d < n → (d ≤ 8) → (T2 = dirG (vK w h K) (T.1 (T.2.1 i) (T.2.2.1 i) + 1) (T.2.1 i) (T.2.2.1 i) d T) → (simB w h F2 QX2 QY2 T2) → (okB w h T2) → (T.2.2.2 ≤ T2.2.2.2) → (T2.2.1 i = T.2.1 i ∧ T2.2.2.1 i = T.2.2.1 i) → ∀ (H : Heap) (locs : List Loc) (ls : Array Slot), va_P D vwCl [(wo, .inr (3, [.ref fa, .ref xa, .ref ya])), (fa, .inl (cI, 100, .inl (aI F2))), (xa, .inl (cI, 100, .inl (aI QX2))), (ya, .inl (cI, 100, .inl (aI QY2))), (b, .inr (0, [.int (iI ((w : Nat) : Int)), .int (iI ((h : Nat) : Int)), .ref ak, .ref ah])), (ak, .inl (cI, 100, .inl (aI K))), (ah, .inl (cI, 100, .inl (aI B)))] H → va_D A [(wo, .inr (3, [.ref fa, .ref xa, .ref ya])), (fa, .inl (cI, 100, .inl (aI F2))), (xa, .inl (cI, 100, .inl (aI QX2))), (ya, .inl (cI, 100, .inl (aI QY2))), (b, .inr (0, [.int (iI ((w : Nat) : Int)), .int (iI ((h : Nat) : Int)), .ref ak, .ref ah])), (ak, .inl (cI, 100, .inl (aI K))), (ah, .inl (cI, 100, .inl (aI B)))] → va_S A s.heap H locs → lv_has ls 8 [(0, .ref wo), (1, .ref b), (2, .int (iI x)), (3, .int (iI y)), (4, .int (iI ((T2.2.2.2 : Nat) : Int))), (5, .int (iI ((i : Nat) : Int))), (6, .int (iI (T.1 (T.2.1 i) (T.2.2.1 i) + 1))), (7, .int (iI ((d : Nat) : Int)))] → W p l e (rmk 2 0 0 48) s m ([.ref wo, .ref b, .int (iI x), .int (iI y)] : List Value).toArray below meth c H locs 0 0 Q (F0 m 51 ls []) := by
          intro n
          induction n with
          | zero => intro d T2 F2 QX2 QY2 hmu; exact absurd hmu (Nat.not_lt_zero _)
          | succ n ih_lp51 =>
            intro d T2 F2 QX2 QY2 hmu hd hT2 hs2 ho2 hl2 hq2 H locs ls hP hD hS hl
            refine lv_iload S.1 S.2.1 dX3_reach_51 (lv_at hl 7 rfl) ?_
            refine r_bipush S dX3_reach_53 (by decide) ?_
            refine r_icmp_ge S (tgt := 103) dX3_reach_55 (by decide) ⟨by omega, by omega⟩ ⟨by decide, by decide⟩ (fun c55 => ?_) (fun c55 => ?_)
            · have hd8 : d = 8 := by omega
              have hTn : T2 = bfsI (vK w h K) x y m0 (i + 1) := by rw [bfsI_s (by rw [← hT]; omega), ← hT, hT2, hd8]; rfl
              refine r_iinc S (z := ((i + 1 : Nat) : Int)) (k0 := 5) (lv' := [(5, .int (iI ((i + 1 : Nat) : Int))), (0, .ref wo), (1, .ref b), (2, .int (iI x)), (3, .int (iI y)), (4, .int (iI ((T2.2.2.2 : Nat) : Int))), (6, .int (iI (T.1 (T.2.1 i) (T.2.2.1 i) + 1))), (7, .int (iI ((d : Nat) : Int)))]) dX3_reach_103 hl rfl (by omega) (by decide) rfl (fun ls hl => ?_)
              refine r_goto S (tgt := 14) dX3_reach_106 (by decide) ?_
              exact ih_lp14 (i + 1) T2 F2 QX2 QY2 (by omega) hTn hs2 ho2 (by omega) _ _ _ hP hD hS (lv_sub hl [1, 2, 3, 4, 5, 0] rfl)
            · obtain ⟨p1, p2⟩ := hs2.2 i (by omega)
              have hln2 := okB_len ho2
              refine lv_aload_n S.1 S.2.1 dX3_reach_58 rfl (lv_at hl 0 rfl) ?_
              refine lv_aload_n S.1 S.2.1 dX3_reach_59 rfl (lv_at hl 1 rfl) ?_
              refine lv_aload_n S.1 S.2.1 dX3_reach_60 rfl (lv_at hl 0 rfl) ?_
              refine r_get S hi3 hK hP 0 rfl rfl 1 (by decide) (by decide +kernel) rfl rfl dX3_reach_61 ?_
              refine lv_iload S.1 S.2.1 dX3_reach_64 (lv_at hl 5 rfl) ?_
              refine r_iald S hK hP 2 0 rfl rfl i (rfl) (by omega) (by decide) dX3_reach_66 ?_
              refine r_getsN S (host := "SparkBoards") hZ.1.1 hS (hZ.nest ("SparkBoards$Wires", 56, "SparkBoards", "RIGHT", "[I", "SparkBoards") (by decide +kernel) _) dX3_reach_67 ?_
              refine lv_iload S.1 S.2.1 dX3_reach_70 (lv_at hl 7 rfl) ?_
              refine r_ti S hZ.1.2 hS d (rfl) (by omega) (by decide) dX3_reach_72 ?_
              refine r_iadd S dX3_reach_73 (z := (T.2.1 i + dX d)) (by rw [p1, hq2.1]) ?_
              refine lv_aload_n S.1 S.2.1 dX3_reach_74 rfl (lv_at hl 0 rfl) ?_
              refine r_get S hi3 hK hP 0 rfl rfl 2 (by decide) (by decide +kernel) rfl rfl dX3_reach_75 ?_
              refine lv_iload S.1 S.2.1 dX3_reach_78 (lv_at hl 5 rfl) ?_
              refine r_iald S hK hP 3 0 rfl rfl i (rfl) (by omega) (by decide) dX3_reach_80 ?_
              refine r_getsN S (host := "SparkBoards") hZ.2.1.1 hS (hZ.nest ("SparkBoards$Wires", 59, "SparkBoards", "DOWN", "[I", "SparkBoards") (by decide +kernel) _) dX3_reach_81 ?_
              refine lv_iload S.1 S.2.1 dX3_reach_84 (lv_at hl 7 rfl) ?_
              refine r_ti S hZ.2.1.2 hS d (rfl) (by omega) (by decide) dX3_reach_86 ?_
              refine r_iadd S dX3_reach_87 (z := (T.2.2.1 i + dY d)) (by rw [p2, hq2.2]) ?_
              refine lv_iload S.1 S.2.1 dX3_reach_88 (lv_at hl 6 rfl) ?_
              refine lv_iload S.1 S.2.1 dX3_reach_90 (lv_at hl 4 rfl) ?_
              refine k_i (wr := []) (va_runV (As := [.ref b, .int (iI (T.2.1 i + dX d)), .int (iI (T.2.2.1 i + dY d)), .int (iI (T.1 (T.2.1 i) (T.2.2.1 i) + 1)), .int (iI ((T2.2.2.2 : Nat) : Int))]) (rest := []) S (mX3_visit l D cI cJ Z _ wo fa xa ya F2 QX2 QY2 b ak ah w h K B T2 (T.2.1 i + dX d) (T.2.2.1 i + dY d) (T.1 (T.2.1 i) (T.2.2.1 i) + 1) (by first | assumption | omega | exact ⟨by omega, by omega⟩) (by first | assumption | omega | exact ⟨by omega, by omega⟩) (by first | assumption | omega | exact ⟨by omega, by omega⟩) (by have := dX_rng d; omega) (by have := dY_rng d; omega) hs2 ho2 (⟨by omega, by omega⟩)) (cwV 5 S.2.2.2.2 gX3_reach_X3_visit rfl rfl rfl (by decide +kernel) ⟨Nat.le_of_ble_eq_true rfl, Nat.le_of_ble_eq_true rfl⟩) (preV_of hK hP hD hS hA hZ [0, 1, 2, 3, 4, 5, 6] (by decide) rfl 0 3 rfl rfl) rfl rfl hl.1 rfl (lv_room (Nat.le_of_ble_eq_true rfl)) dX3_reach_92 ⟨Nat.le_of_ble_eq_true rfl, Nat.le_of_ble_eq_true rfl⟩) hP hD hS hA [0, 1, 2, 3, 4, 5, 6] [] rfl rfl (by decide) (by decide) [0, 1, 2, 3, 4, 5, 6] (by decide) (fun u => [(wo, .inr (3, [.ref fa, .ref xa, .ref ya])), (fa, .inl (cI, 100, .inl (aI u.1))), (xa, .inl (cI, 100, .inl (aI u.2.1))), (ya, .inl (cI, 100, .inl (aI u.2.2))), (b, .inr (0, [.int (iI ((w : Nat) : Int)), .int (iI ((h : Nat) : Int)), .ref ak, .ref ah])), (ak, .inl (cI, 100, .inl (aI K))), (ah, .inl (cI, 100, .inl (aI B)))]) (fun u => rfl) (fun r u H locs hpo hP hD hS => ?_)
              obtain ⟨F3, QX3, QY3⟩ := u
              try dsimp only at hpo
              have hP : va_P D vwCl [(wo, .inr (3, [.ref fa, .ref xa, .ref ya])), (fa, .inl (cI, 100, .inl (aI F3))), (xa, .inl (cI, 100, .inl (aI QX3))), (ya, .inl (cI, 100, .inl (aI QY3))), (b, .inr (0, [.int (iI ((w : Nat) : Int)), .int (iI ((h : Nat) : Int)), .ref ak, .ref ah])), (ak, .inl (cI, 100, .inl (aI K))), (ah, .inl (cI, 100, .inl (aI B)))] _ := hP
              have hD : va_D A [(wo, .inr (3, [.ref fa, .ref xa, .ref ya])), (fa, .inl (cI, 100, .inl (aI F3))), (xa, .inl (cI, 100, .inl (aI QX3))), (ya, .inl (cI, 100, .inl (aI QY3))), (b, .inr (0, [.int (iI ((w : Nat) : Int)), .int (iI ((h : Nat) : Int)), .ref ak, .ref ah])), (ak, .inl (cI, 100, .inl (aI K))), (ah, .inl (cI, 100, .inl (aI B)))] := hD
              obtain ⟨rfl, hs3⟩ := hpo
              obtain ⟨ho3, hl3, hk3⟩ := vis_all (X := T.2.1 i + dX d) (Y := T.2.2.1 i + dY d) (outG_vK w h K) hsz.2 ho2 (way := T.1 (T.2.1 i) (T.2.2.1 i) + 1) (by omega) (by omega)
              have hk4 := hk3 i (by omega)
              refine lv_istore (lv' := [(4, .int (iI (((visG (vK w h K) (T.1 (T.2.1 i) (T.2.2.1 i) + 1) (T.2.1 i + dX d) (T.2.2.1 i + dY d) T2).2.2.2 : Nat) : Int))), (0, .ref wo), (1, .ref b), (2, .int (iI x)), (3, .int (iI y)), (5, .int (iI ((i : Nat) : Int))), (6, .int (iI (T.1 (T.2.1 i) (T.2.2.1 i) + 1))), (7, .int (iI ((d : Nat) : Int)))]) S.1 S.2.1 dX3_reach_95 hl (by decide) rfl (fun ls hl => ?_)
              refine r_iinc S (z := ((d + 1 : Nat) : Int)) (k0 := 7) (lv' := [(7, .int (iI ((d + 1 : Nat) : Int))), (4, .int (iI (((visG (vK w h K) (T.1 (T.2.1 i) (T.2.2.1 i) + 1) (T.2.1 i + dX d) (T.2.2.1 i + dY d) T2).2.2.2 : Nat) : Int))), (0, .ref wo), (1, .ref b), (2, .int (iI x)), (3, .int (iI y)), (5, .int (iI ((i : Nat) : Int))), (6, .int (iI (T.1 (T.2.1 i) (T.2.2.1 i) + 1)))]) dX3_reach_97 hl rfl (by omega) (by decide) rfl (fun ls hl => ?_)
              refine r_goto S (tgt := 51) dX3_reach_100 (by decide) ?_
              exact ih_lp51 (d + 1) (visG (vK w h K) (T.1 (T.2.1 i) (T.2.2.1 i) + 1) (T.2.1 i + dX d) (T.2.2.1 i + dY d) T2) F3 QX3 QY3 (by omega) (by omega) (by rw [hT2]; rfl) hs3 ho3 (by omega) (⟨by rw [hk4.1, hq2.1], by rw [hk4.2.1, hq2.2]⟩) _ _ _ hP hD hS (lv_sub hl [2, 3, 4, 5, 1, 6, 7, 0] rfl)
        exact lp51 _ 0 T F1 QX1 QY1 (Nat.lt_succ_self _) (by omega) rfl hsT hoT (Nat.le_refl _) (⟨rfl, rfl⟩) _ _ _ hP hD hS (lv_sub hl [2, 3, 4, 5, 6, 7, 1, 0] rfl)
  exact lp14 _ 0 (visG (vK w h K) 0 x y (m0, fun _ => 0, fun _ => 0, 0)) Fa Qa Qb (Nat.lt_succ_self _) rfl hs1 (bfs_ok (outG_vK w h K) hsz.2 x y hm) (Nat.zero_le _) _ _ _ hP hD hS (lv_sub hl [2, 3, 4, 5, 1, 0] rfl)
