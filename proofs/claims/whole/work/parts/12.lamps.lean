set_option maxHeartbeats 4000000 in
set_option maxRecDepth 100000 in
theorem mX1_clear (l : Launch) (D : va_G) (cI cJ : ClassId) (Z : Nat → Nat) (sz : Nat) (lo : Nat) (lca : Nat) (lra : Nat) (lia : Nat) (lta : Nat) (n : Nat) (LX : Nat → Int) (LY : Nat → Int) (LL : Nat → Int) (LA : Nat → Int) : Met l yX1_clear wsX1_clear (rmk 0 0 0 0) (va_Pc [.ref lo] (preW D [(cI, .int), (cJ, .long)] Z [(lo, .inr (1, [.int (iI ((n : Nat) : Int)), .ref lca, .ref lra, .ref lia, .ref lta])), (lca, .inl (cI, 5, .inl (aI LX))), (lra, .inl (cI, 5, .inl (aI LY))), (lia, .inl (cI, 5, .inl (aI LL))), (lta, .inl (cI, 5, .inl (aI LA)))] sz)) (va_Qv (fun (u : Unit) => True) (fun (u : Unit) t => aftW D [(cI, .int), (cJ, .long)] [(lo, .inr (1, [.int (iI ((0 : Nat) : Int)), .ref lca, .ref lra, .ref lia, .ref lta])), (lca, .inl (cI, 5, .inl (aI LX))), (lra, .inl (cI, 5, .inl (aI LY))), (lia, .inl (cI, 5, .inl (aI LL))), (lta, .inl (cI, 5, .inl (aI LA)))] (va_A [(lo, .inr (1, [.int (iI ((n : Nat) : Int)), .ref lca, .ref lra, .ref lia, .ref lta])), (lca, .inl (cI, 5, .inl (aI LX))), (lra, .inl (cI, 5, .inl (aI LY))), (lia, .inl (cI, 5, .inl (aI LL))), (lta, .inl (cI, 5, .inl (aI LA)))] sz) t) (va_A [(lo, .inr (1, [.int (iI ((n : Nat) : Int)), .ref lca, .ref lra, .ref lia, .ref lta])), (lca, .inl (cI, 5, .inl (aI LX))), (lra, .inl (cI, 5, .inl (aI LY))), (lia, .inl (cI, 5, .inl (aI LL))), (lta, .inl (cI, 5, .inl (aI LA)))] sz)) 0 0 (va_A [(lo, .inr (1, [.int (iI ((n : Nat) : Int)), .ref lca, .ref lra, .ref lia, .ref lta])), (lca, .inl (cI, 5, .inl (aI LX))), (lra, .inl (cI, 5, .inl (aI LY))), (lia, .inl (cI, 5, .inl (aI LL))), (lta, .inl (cI, 5, .inl (aI LA)))] sz) := by
  refine m_of (cc := cX1_clear) (maxL := 1) (ret := none) (Qc := fun A => va_Qv (fun (u : Unit) => True) (fun (u : Unit) t => aftW D [(cI, .int), (cJ, .long)] [(lo, .inr (1, [.int (iI ((0 : Nat) : Int)), .ref lca, .ref lra, .ref lia, .ref lta])), (lca, .inl (cI, 5, .inl (aI LX))), (lra, .inl (cI, 5, .inl (aI LY))), (lia, .inl (cI, 5, .inl (aI LL))), (lta, .inl (cI, 5, .inl (aI LA)))] A t) A) RX1 [(0, .ref lo)] (by decide) rfl rfl (Nat.le_of_ble_eq_true rfl) rfl (fun p e s m below meth c A ls Q S hr hlk hnm hAe hsz hP hK hD hA hZ hS hl hQ => ?_)
  have hi1 : ∀ w ∈ u_ws RX1 TX1 5, w ∈ wsX1_clear := by decide +kernel
  refine lv_aload_n S.1 S.2.1 dX1_clear_0 rfl (lv_at hl 0 rfl) ?_
  refine r_iconst S dX1_clear_1 ?_
  refine r_put S hi1 tyX1 tyX1_ok nmX1 hK hP hD hS 0 rfl rfl 0 (by decide) (by decide +kernel) rfl rfl (ty := .int) (v := .int (iI 0)) (by decide +kernel) rfl rfl (by simp) dX1_clear_2 [(lo, .inr (1, [.int (iI 0), .ref lca, .ref lra, .ref lia, .ref lta])), (lca, .inl (cI, 5, .inl (aI LX))), (lra, .inl (cI, 5, .inl (aI LY))), (lia, .inl (cI, 5, .inl (aI LL))), (lta, .inl (cI, 5, .inl (aI LA)))] rfl (fun H locs hP hD hS => ?_)
  subst hQ
  exact e_vret S hr hlk hS (Nat.le_of_ble_eq_true rfl) (Nat.le_of_ble_eq_true rfl) (u := ()) (trivial) (aft_of hK hP hD) dX1_clear_5
set_option maxHeartbeats 4000000 in
set_option maxRecDepth 100000 in
theorem mX1_many (l : Launch) (D : va_G) (cI cJ : ClassId) (Z : Nat → Nat) (sz : Nat) (lo : Nat) (lca : Nat) (lra : Nat) (lia : Nat) (lta : Nat) (n : Nat) (LX : Nat → Int) (LY : Nat → Int) (LL : Nat → Int) (LA : Nat → Int) : Met l yX1_many wsX1_many (rmk 0 0 0 0) (va_Pc [.ref lo] (preW D [(cI, .int), (cJ, .long)] Z [(lo, .inr (1, [.int (iI ((n : Nat) : Int)), .ref lca, .ref lra, .ref lia, .ref lta])), (lca, .inl (cI, 5, .inl (aI LX))), (lra, .inl (cI, 5, .inl (aI LY))), (lia, .inl (cI, 5, .inl (aI LL))), (lta, .inl (cI, 5, .inl (aI LA)))] sz)) (va_Qi (fun (r : Int32) (u : Unit) => r = iI ((n : Nat) : Int)) (fun (u : Unit) t => aftW D [(cI, .int), (cJ, .long)] [(lo, .inr (1, [.int (iI ((n : Nat) : Int)), .ref lca, .ref lra, .ref lia, .ref lta])), (lca, .inl (cI, 5, .inl (aI LX))), (lra, .inl (cI, 5, .inl (aI LY))), (lia, .inl (cI, 5, .inl (aI LL))), (lta, .inl (cI, 5, .inl (aI LA)))] (va_A [(lo, .inr (1, [.int (iI ((n : Nat) : Int)), .ref lca, .ref lra, .ref lia, .ref lta])), (lca, .inl (cI, 5, .inl (aI LX))), (lra, .inl (cI, 5, .inl (aI LY))), (lia, .inl (cI, 5, .inl (aI LL))), (lta, .inl (cI, 5, .inl (aI LA)))] sz) t) (va_A [(lo, .inr (1, [.int (iI ((n : Nat) : Int)), .ref lca, .ref lra, .ref lia, .ref lta])), (lca, .inl (cI, 5, .inl (aI LX))), (lra, .inl (cI, 5, .inl (aI LY))), (lia, .inl (cI, 5, .inl (aI LL))), (lta, .inl (cI, 5, .inl (aI LA)))] sz)) 0 0 (va_A [(lo, .inr (1, [.int (iI ((n : Nat) : Int)), .ref lca, .ref lra, .ref lia, .ref lta])), (lca, .inl (cI, 5, .inl (aI LX))), (lra, .inl (cI, 5, .inl (aI LY))), (lia, .inl (cI, 5, .inl (aI LL))), (lta, .inl (cI, 5, .inl (aI LA)))] sz) := by
  refine m_of (cc := cX1_many) (maxL := 1) (ret := (some .int)) (Qc := fun A => va_Qi (fun (r : Int32) (u : Unit) => r = iI ((n : Nat) : Int)) (fun (u : Unit) t => aftW D [(cI, .int), (cJ, .long)] [(lo, .inr (1, [.int (iI ((n : Nat) : Int)), .ref lca, .ref lra, .ref lia, .ref lta])), (lca, .inl (cI, 5, .inl (aI LX))), (lra, .inl (cI, 5, .inl (aI LY))), (lia, .inl (cI, 5, .inl (aI LL))), (lta, .inl (cI, 5, .inl (aI LA)))] A t) A) RX1 [(0, .ref lo)] (by decide) rfl rfl (Nat.le_of_ble_eq_true rfl) rfl (fun p e s m below meth c A ls Q S hr hlk hnm hAe hsz hP hK hD hA hZ hS hl hQ => ?_)
  have hi1 : ∀ w ∈ u_ws RX1 TX1 5, w ∈ wsX1_many := by decide +kernel
  refine lv_aload_n S.1 S.2.1 dX1_many_0 rfl (lv_at hl 0 rfl) ?_
  refine r_get S hi1 hK hP 0 rfl rfl 0 (by decide) (by decide +kernel) rfl rfl dX1_many_1 ?_
  subst hQ
  exact e_iret S hr hlk hS (Nat.le_of_ble_eq_true rfl) (Nat.le_of_ble_eq_true rfl) (u := ()) (rfl) (aft_of hK hP hD) dX1_many_4
set_option maxHeartbeats 4000000 in
set_option maxRecDepth 100000 in
theorem mX1_isLamp (l : Launch) (D : va_G) (cI cJ : ClassId) (Z : Nat → Nat) (sz : Nat) (lo : Nat) (lca : Nat) (lra : Nat) (lia : Nat) (lta : Nat) (n : Nat) (LX : Nat → Int) (LY : Nat → Int) (LL : Nat → Int) (LA : Nat → Int) (k : Nat) (hn : n ≤ 5) (hk : k < n) : Met l yX1_isLamp wsX1_isLamp (rmk 0 0 0 0) (va_Pc [.ref lo, .int (iI ((k : Nat) : Int))] (preW D [(cI, .int), (cJ, .long)] Z [(lo, .inr (1, [.int (iI ((n : Nat) : Int)), .ref lca, .ref lra, .ref lia, .ref lta])), (lca, .inl (cI, 5, .inl (aI LX))), (lra, .inl (cI, 5, .inl (aI LY))), (lia, .inl (cI, 5, .inl (aI LL))), (lta, .inl (cI, 5, .inl (aI LA)))] sz)) (va_Qi (fun (r : Int32) (u : Unit) => r = iI 1) (fun (u : Unit) t => aftW D [(cI, .int), (cJ, .long)] [(lo, .inr (1, [.int (iI ((n : Nat) : Int)), .ref lca, .ref lra, .ref lia, .ref lta])), (lca, .inl (cI, 5, .inl (aI LX))), (lra, .inl (cI, 5, .inl (aI LY))), (lia, .inl (cI, 5, .inl (aI LL))), (lta, .inl (cI, 5, .inl (aI LA)))] (va_A [(lo, .inr (1, [.int (iI ((n : Nat) : Int)), .ref lca, .ref lra, .ref lia, .ref lta])), (lca, .inl (cI, 5, .inl (aI LX))), (lra, .inl (cI, 5, .inl (aI LY))), (lia, .inl (cI, 5, .inl (aI LL))), (lta, .inl (cI, 5, .inl (aI LA)))] sz) t) (va_A [(lo, .inr (1, [.int (iI ((n : Nat) : Int)), .ref lca, .ref lra, .ref lia, .ref lta])), (lca, .inl (cI, 5, .inl (aI LX))), (lra, .inl (cI, 5, .inl (aI LY))), (lia, .inl (cI, 5, .inl (aI LL))), (lta, .inl (cI, 5, .inl (aI LA)))] sz)) 0 0 (va_A [(lo, .inr (1, [.int (iI ((n : Nat) : Int)), .ref lca, .ref lra, .ref lia, .ref lta])), (lca, .inl (cI, 5, .inl (aI LX))), (lra, .inl (cI, 5, .inl (aI LY))), (lia, .inl (cI, 5, .inl (aI LL))), (lta, .inl (cI, 5, .inl (aI LA)))] sz) := by
  refine m_of (cc := cX1_isLamp) (maxL := 2) (ret := (some .boolean)) (Qc := fun A => va_Qi (fun (r : Int32) (u : Unit) => r = iI 1) (fun (u : Unit) t => aftW D [(cI, .int), (cJ, .long)] [(lo, .inr (1, [.int (iI ((n : Nat) : Int)), .ref lca, .ref lra, .ref lia, .ref lta])), (lca, .inl (cI, 5, .inl (aI LX))), (lra, .inl (cI, 5, .inl (aI LY))), (lia, .inl (cI, 5, .inl (aI LL))), (lta, .inl (cI, 5, .inl (aI LA)))] A t) A) RX1 [(0, .ref lo), (1, .int (iI ((k : Nat) : Int)))] (by decide) rfl rfl (Nat.le_of_ble_eq_true rfl) rfl (fun p e s m below meth c A ls Q S hr hlk hnm hAe hsz hP hK hD hA hZ hS hl hQ => ?_)
  have hi1 : ∀ w ∈ u_ws RX1 TX1 5, w ∈ wsX1_isLamp := by decide +kernel
  refine lv_iload_n S.1 S.2.1 dX1_isLamp_0 rfl (lv_at hl 1 rfl) ?_
  refine r_if_lt S (tgt := 16) dX1_isLamp_1 (by decide) ⟨by omega, by omega⟩ (fun c1 => ?_) (fun c1 => ?_)
  · exact absurd c1 (by omega)
  · refine lv_iload_n S.1 S.2.1 dX1_isLamp_4 rfl (lv_at hl 1 rfl) ?_
    refine lv_aload_n S.1 S.2.1 dX1_isLamp_5 rfl (lv_at hl 0 rfl) ?_
    refine r_get S hi1 hK hP 0 rfl rfl 0 (by decide) (by decide +kernel) rfl rfl dX1_isLamp_6 ?_
    refine r_icmp_ge S (tgt := 16) dX1_isLamp_9 (by decide) ⟨by omega, by omega⟩ ⟨by omega, by omega⟩ (fun c9 => ?_) (fun c9 => ?_)
    · exact absurd c9 (by omega)
    · refine r_iconst S dX1_isLamp_12 ?_
      refine r_goto S (tgt := 17) dX1_isLamp_13 (by decide) ?_
      subst hQ
      exact e_zret S hr hlk hS (Nat.le_of_ble_eq_true rfl) (Nat.le_of_ble_eq_true rfl) (by omega) (u := ()) (rfl) (aft_of hK hP hD) dX1_isLamp_17
set_option maxHeartbeats 4000000 in
set_option maxRecDepth 100000 in
theorem mX1_column (l : Launch) (D : va_G) (cI cJ : ClassId) (Z : Nat → Nat) (sz : Nat) (lo : Nat) (lca : Nat) (lra : Nat) (lia : Nat) (lta : Nat) (n : Nat) (LX : Nat → Int) (LY : Nat → Int) (LL : Nat → Int) (LA : Nat → Int) (k : Nat) (hn : n ≤ 5) (hk : k < n) : Met l yX1_column wsX1_column (rmk 1 0 0 21) (va_Pc [.ref lo, .int (iI ((k : Nat) : Int))] (preW D [(cI, .int), (cJ, .long)] Z [(lo, .inr (1, [.int (iI ((n : Nat) : Int)), .ref lca, .ref lra, .ref lia, .ref lta])), (lca, .inl (cI, 5, .inl (aI LX))), (lra, .inl (cI, 5, .inl (aI LY))), (lia, .inl (cI, 5, .inl (aI LL))), (lta, .inl (cI, 5, .inl (aI LA)))] sz)) (va_Qi (fun (r : Int32) (u : Unit) => r = iI (LX k)) (fun (u : Unit) t => aftW D [(cI, .int), (cJ, .long)] [(lo, .inr (1, [.int (iI ((n : Nat) : Int)), .ref lca, .ref lra, .ref lia, .ref lta])), (lca, .inl (cI, 5, .inl (aI LX))), (lra, .inl (cI, 5, .inl (aI LY))), (lia, .inl (cI, 5, .inl (aI LL))), (lta, .inl (cI, 5, .inl (aI LA)))] (va_A [(lo, .inr (1, [.int (iI ((n : Nat) : Int)), .ref lca, .ref lra, .ref lia, .ref lta])), (lca, .inl (cI, 5, .inl (aI LX))), (lra, .inl (cI, 5, .inl (aI LY))), (lia, .inl (cI, 5, .inl (aI LL))), (lta, .inl (cI, 5, .inl (aI LA)))] sz) t) (va_A [(lo, .inr (1, [.int (iI ((n : Nat) : Int)), .ref lca, .ref lra, .ref lia, .ref lta])), (lca, .inl (cI, 5, .inl (aI LX))), (lra, .inl (cI, 5, .inl (aI LY))), (lia, .inl (cI, 5, .inl (aI LL))), (lta, .inl (cI, 5, .inl (aI LA)))] sz)) 0 0 (va_A [(lo, .inr (1, [.int (iI ((n : Nat) : Int)), .ref lca, .ref lra, .ref lia, .ref lta])), (lca, .inl (cI, 5, .inl (aI LX))), (lra, .inl (cI, 5, .inl (aI LY))), (lia, .inl (cI, 5, .inl (aI LL))), (lta, .inl (cI, 5, .inl (aI LA)))] sz) := by
  refine m_of (cc := cX1_column) (maxL := 2) (ret := (some .int)) (Qc := fun A => va_Qi (fun (r : Int32) (u : Unit) => r = iI (LX k)) (fun (u : Unit) t => aftW D [(cI, .int), (cJ, .long)] [(lo, .inr (1, [.int (iI ((n : Nat) : Int)), .ref lca, .ref lra, .ref lia, .ref lta])), (lca, .inl (cI, 5, .inl (aI LX))), (lra, .inl (cI, 5, .inl (aI LY))), (lia, .inl (cI, 5, .inl (aI LL))), (lta, .inl (cI, 5, .inl (aI LA)))] A t) A) RX1 [(0, .ref lo), (1, .int (iI ((k : Nat) : Int)))] (by decide) rfl rfl (Nat.le_of_ble_eq_true rfl) rfl (fun p e s m below meth c A ls Q S hr hlk hnm hAe hsz hP hK hD hA hZ hS hl hQ => ?_)
  have hi1 : ∀ w ∈ u_ws RX1 TX1 5, w ∈ wsX1_column := by decide +kernel
  refine lv_aload_n S.1 S.2.1 dX1_column_0 rfl (lv_at hl 0 rfl) ?_
  refine lv_iload_n S.1 S.2.1 dX1_column_1 rfl (lv_at hl 1 rfl) ?_
  refine k_i (wr := []) (va_runV (As := [.int (iI ((k : Nat) : Int))]) (rest := []) S (mX1_isLamp l D cI cJ Z _ lo lca lra lia lta n LX LY LL LA k (by first | assumption | omega | exact ⟨by omega, by omega⟩) (by first | assumption | omega | exact ⟨by omega, by omega⟩)) (cwV 1 S.2.2.2.2 gX1_column_X1_isLamp rfl rfl rfl (by decide +kernel) ⟨Nat.le_of_ble_eq_true rfl, Nat.le_of_ble_eq_true rfl⟩) (preV_of hK hP hD hS hA hZ [0, 1, 2, 3, 4] (by decide) rfl 0 1 rfl rfl) rfl rfl hl.1 rfl (lv_room (Nat.le_of_ble_eq_true rfl)) dX1_column_2 ⟨Nat.le_of_ble_eq_true rfl, Nat.le_of_ble_eq_true rfl⟩) hP hD hS hA [0, 1, 2, 3, 4] [] rfl rfl (by decide) (by decide) [0, 1, 2, 3, 4] (by decide) (fun u => [(lo, .inr (1, [.int (iI ((n : Nat) : Int)), .ref lca, .ref lra, .ref lia, .ref lta])), (lca, .inl (cI, 5, .inl (aI LX))), (lra, .inl (cI, 5, .inl (aI LY))), (lia, .inl (cI, 5, .inl (aI LL))), (lta, .inl (cI, 5, .inl (aI LA)))]) (fun u => rfl) (fun r u H locs hpo hP hD hS => ?_)
  obtain rfl := hpo
  refine r_if_eq S (tgt := 17) dX1_column_5 (by decide) ⟨by decide, by decide⟩ (fun c5 => ?_) (fun c5 => ?_)
  · exact absurd c5 (by decide)
  · refine lv_aload_n S.1 S.2.1 dX1_column_8 rfl (lv_at hl 0 rfl) ?_
    refine r_get S hi1 hK hP 0 rfl rfl 1 (by decide) (by decide +kernel) rfl rfl dX1_column_9 ?_
    refine lv_iload_n S.1 S.2.1 dX1_column_12 rfl (lv_at hl 1 rfl) ?_
    refine r_iald S hK hP 1 0 rfl rfl k (rfl) (by omega) (by decide) dX1_column_13 ?_
    refine r_goto S (tgt := 18) dX1_column_14 (by decide) ?_
    subst hQ
    exact e_iret S hr hlk hS (Nat.le_of_ble_eq_true rfl) (Nat.le_of_ble_eq_true rfl) (u := ()) (rfl) (aft_of hK hP hD) dX1_column_18
set_option maxHeartbeats 4000000 in
set_option maxRecDepth 100000 in
theorem mX1_row (l : Launch) (D : va_G) (cI cJ : ClassId) (Z : Nat → Nat) (sz : Nat) (lo : Nat) (lca : Nat) (lra : Nat) (lia : Nat) (lta : Nat) (n : Nat) (LX : Nat → Int) (LY : Nat → Int) (LL : Nat → Int) (LA : Nat → Int) (k : Nat) (hn : n ≤ 5) (hk : k < n) : Met l yX1_row wsX1_row (rmk 1 0 0 21) (va_Pc [.ref lo, .int (iI ((k : Nat) : Int))] (preW D [(cI, .int), (cJ, .long)] Z [(lo, .inr (1, [.int (iI ((n : Nat) : Int)), .ref lca, .ref lra, .ref lia, .ref lta])), (lca, .inl (cI, 5, .inl (aI LX))), (lra, .inl (cI, 5, .inl (aI LY))), (lia, .inl (cI, 5, .inl (aI LL))), (lta, .inl (cI, 5, .inl (aI LA)))] sz)) (va_Qi (fun (r : Int32) (u : Unit) => r = iI (LY k)) (fun (u : Unit) t => aftW D [(cI, .int), (cJ, .long)] [(lo, .inr (1, [.int (iI ((n : Nat) : Int)), .ref lca, .ref lra, .ref lia, .ref lta])), (lca, .inl (cI, 5, .inl (aI LX))), (lra, .inl (cI, 5, .inl (aI LY))), (lia, .inl (cI, 5, .inl (aI LL))), (lta, .inl (cI, 5, .inl (aI LA)))] (va_A [(lo, .inr (1, [.int (iI ((n : Nat) : Int)), .ref lca, .ref lra, .ref lia, .ref lta])), (lca, .inl (cI, 5, .inl (aI LX))), (lra, .inl (cI, 5, .inl (aI LY))), (lia, .inl (cI, 5, .inl (aI LL))), (lta, .inl (cI, 5, .inl (aI LA)))] sz) t) (va_A [(lo, .inr (1, [.int (iI ((n : Nat) : Int)), .ref lca, .ref lra, .ref lia, .ref lta])), (lca, .inl (cI, 5, .inl (aI LX))), (lra, .inl (cI, 5, .inl (aI LY))), (lia, .inl (cI, 5, .inl (aI LL))), (lta, .inl (cI, 5, .inl (aI LA)))] sz)) 0 0 (va_A [(lo, .inr (1, [.int (iI ((n : Nat) : Int)), .ref lca, .ref lra, .ref lia, .ref lta])), (lca, .inl (cI, 5, .inl (aI LX))), (lra, .inl (cI, 5, .inl (aI LY))), (lia, .inl (cI, 5, .inl (aI LL))), (lta, .inl (cI, 5, .inl (aI LA)))] sz) := by
  refine m_of (cc := cX1_row) (maxL := 2) (ret := (some .int)) (Qc := fun A => va_Qi (fun (r : Int32) (u : Unit) => r = iI (LY k)) (fun (u : Unit) t => aftW D [(cI, .int), (cJ, .long)] [(lo, .inr (1, [.int (iI ((n : Nat) : Int)), .ref lca, .ref lra, .ref lia, .ref lta])), (lca, .inl (cI, 5, .inl (aI LX))), (lra, .inl (cI, 5, .inl (aI LY))), (lia, .inl (cI, 5, .inl (aI LL))), (lta, .inl (cI, 5, .inl (aI LA)))] A t) A) RX1 [(0, .ref lo), (1, .int (iI ((k : Nat) : Int)))] (by decide) rfl rfl (Nat.le_of_ble_eq_true rfl) rfl (fun p e s m below meth c A ls Q S hr hlk hnm hAe hsz hP hK hD hA hZ hS hl hQ => ?_)
  have hi1 : ∀ w ∈ u_ws RX1 TX1 5, w ∈ wsX1_row := by decide +kernel
  refine lv_aload_n S.1 S.2.1 dX1_row_0 rfl (lv_at hl 0 rfl) ?_
  refine lv_iload_n S.1 S.2.1 dX1_row_1 rfl (lv_at hl 1 rfl) ?_
  refine k_i (wr := []) (va_runV (As := [.int (iI ((k : Nat) : Int))]) (rest := []) S (mX1_isLamp l D cI cJ Z _ lo lca lra lia lta n LX LY LL LA k (by first | assumption | omega | exact ⟨by omega, by omega⟩) (by first | assumption | omega | exact ⟨by omega, by omega⟩)) (cwV 1 S.2.2.2.2 gX1_row_X1_isLamp rfl rfl rfl (by decide +kernel) ⟨Nat.le_of_ble_eq_true rfl, Nat.le_of_ble_eq_true rfl⟩) (preV_of hK hP hD hS hA hZ [0, 1, 2, 3, 4] (by decide) rfl 0 1 rfl rfl) rfl rfl hl.1 rfl (lv_room (Nat.le_of_ble_eq_true rfl)) dX1_row_2 ⟨Nat.le_of_ble_eq_true rfl, Nat.le_of_ble_eq_true rfl⟩) hP hD hS hA [0, 1, 2, 3, 4] [] rfl rfl (by decide) (by decide) [0, 1, 2, 3, 4] (by decide) (fun u => [(lo, .inr (1, [.int (iI ((n : Nat) : Int)), .ref lca, .ref lra, .ref lia, .ref lta])), (lca, .inl (cI, 5, .inl (aI LX))), (lra, .inl (cI, 5, .inl (aI LY))), (lia, .inl (cI, 5, .inl (aI LL))), (lta, .inl (cI, 5, .inl (aI LA)))]) (fun u => rfl) (fun r u H locs hpo hP hD hS => ?_)
  obtain rfl := hpo
  refine r_if_eq S (tgt := 17) dX1_row_5 (by decide) ⟨by decide, by decide⟩ (fun c5 => ?_) (fun c5 => ?_)
  · exact absurd c5 (by decide)
  · refine lv_aload_n S.1 S.2.1 dX1_row_8 rfl (lv_at hl 0 rfl) ?_
    refine r_get S hi1 hK hP 0 rfl rfl 2 (by decide) (by decide +kernel) rfl rfl dX1_row_9 ?_
    refine lv_iload_n S.1 S.2.1 dX1_row_12 rfl (lv_at hl 1 rfl) ?_
    refine r_iald S hK hP 2 0 rfl rfl k (rfl) (by omega) (by decide) dX1_row_13 ?_
    refine r_goto S (tgt := 18) dX1_row_14 (by decide) ?_
    subst hQ
    exact e_iret S hr hlk hS (Nat.le_of_ble_eq_true rfl) (Nat.le_of_ble_eq_true rfl) (u := ()) (rfl) (aft_of hK hP hD) dX1_row_18
set_option maxHeartbeats 4000000 in
set_option maxRecDepth 100000 in
theorem mX1_lit (l : Launch) (D : va_G) (cI cJ : ClassId) (Z : Nat → Nat) (sz : Nat) (lo : Nat) (lca : Nat) (lra : Nat) (lia : Nat) (lta : Nat) (n : Nat) (LX : Nat → Int) (LY : Nat → Int) (LL : Nat → Int) (LA : Nat → Int) (k : Nat) (hn : n ≤ 5) (hk : k < n) : Met l yX1_lit wsX1_lit (rmk 1 0 0 21) (va_Pc [.ref lo, .int (iI ((k : Nat) : Int))] (preW D [(cI, .int), (cJ, .long)] Z [(lo, .inr (1, [.int (iI ((n : Nat) : Int)), .ref lca, .ref lra, .ref lia, .ref lta])), (lca, .inl (cI, 5, .inl (aI LX))), (lra, .inl (cI, 5, .inl (aI LY))), (lia, .inl (cI, 5, .inl (aI LL))), (lta, .inl (cI, 5, .inl (aI LA)))] sz)) (va_Qi (fun (r : Int32) (u : Unit) => r = iI (LL k)) (fun (u : Unit) t => aftW D [(cI, .int), (cJ, .long)] [(lo, .inr (1, [.int (iI ((n : Nat) : Int)), .ref lca, .ref lra, .ref lia, .ref lta])), (lca, .inl (cI, 5, .inl (aI LX))), (lra, .inl (cI, 5, .inl (aI LY))), (lia, .inl (cI, 5, .inl (aI LL))), (lta, .inl (cI, 5, .inl (aI LA)))] (va_A [(lo, .inr (1, [.int (iI ((n : Nat) : Int)), .ref lca, .ref lra, .ref lia, .ref lta])), (lca, .inl (cI, 5, .inl (aI LX))), (lra, .inl (cI, 5, .inl (aI LY))), (lia, .inl (cI, 5, .inl (aI LL))), (lta, .inl (cI, 5, .inl (aI LA)))] sz) t) (va_A [(lo, .inr (1, [.int (iI ((n : Nat) : Int)), .ref lca, .ref lra, .ref lia, .ref lta])), (lca, .inl (cI, 5, .inl (aI LX))), (lra, .inl (cI, 5, .inl (aI LY))), (lia, .inl (cI, 5, .inl (aI LL))), (lta, .inl (cI, 5, .inl (aI LA)))] sz)) 0 0 (va_A [(lo, .inr (1, [.int (iI ((n : Nat) : Int)), .ref lca, .ref lra, .ref lia, .ref lta])), (lca, .inl (cI, 5, .inl (aI LX))), (lra, .inl (cI, 5, .inl (aI LY))), (lia, .inl (cI, 5, .inl (aI LL))), (lta, .inl (cI, 5, .inl (aI LA)))] sz) := by
  refine m_of (cc := cX1_lit) (maxL := 2) (ret := (some .int)) (Qc := fun A => va_Qi (fun (r : Int32) (u : Unit) => r = iI (LL k)) (fun (u : Unit) t => aftW D [(cI, .int), (cJ, .long)] [(lo, .inr (1, [.int (iI ((n : Nat) : Int)), .ref lca, .ref lra, .ref lia, .ref lta])), (lca, .inl (cI, 5, .inl (aI LX))), (lra, .inl (cI, 5, .inl (aI LY))), (lia, .inl (cI, 5, .inl (aI LL))), (lta, .inl (cI, 5, .inl (aI LA)))] A t) A) RX1 [(0, .ref lo), (1, .int (iI ((k : Nat) : Int)))] (by decide) rfl rfl (Nat.le_of_ble_eq_true rfl) rfl (fun p e s m below meth c A ls Q S hr hlk hnm hAe hsz hP hK hD hA hZ hS hl hQ => ?_)
  have hi1 : ∀ w ∈ u_ws RX1 TX1 5, w ∈ wsX1_lit := by decide +kernel
  refine lv_aload_n S.1 S.2.1 dX1_lit_0 rfl (lv_at hl 0 rfl) ?_
  refine lv_iload_n S.1 S.2.1 dX1_lit_1 rfl (lv_at hl 1 rfl) ?_
  refine k_i (wr := []) (va_runV (As := [.int (iI ((k : Nat) : Int))]) (rest := []) S (mX1_isLamp l D cI cJ Z _ lo lca lra lia lta n LX LY LL LA k (by first | assumption | omega | exact ⟨by omega, by omega⟩) (by first | assumption | omega | exact ⟨by omega, by omega⟩)) (cwV 1 S.2.2.2.2 gX1_lit_X1_isLamp rfl rfl rfl (by decide +kernel) ⟨Nat.le_of_ble_eq_true rfl, Nat.le_of_ble_eq_true rfl⟩) (preV_of hK hP hD hS hA hZ [0, 1, 2, 3, 4] (by decide) rfl 0 1 rfl rfl) rfl rfl hl.1 rfl (lv_room (Nat.le_of_ble_eq_true rfl)) dX1_lit_2 ⟨Nat.le_of_ble_eq_true rfl, Nat.le_of_ble_eq_true rfl⟩) hP hD hS hA [0, 1, 2, 3, 4] [] rfl rfl (by decide) (by decide) [0, 1, 2, 3, 4] (by decide) (fun u => [(lo, .inr (1, [.int (iI ((n : Nat) : Int)), .ref lca, .ref lra, .ref lia, .ref lta])), (lca, .inl (cI, 5, .inl (aI LX))), (lra, .inl (cI, 5, .inl (aI LY))), (lia, .inl (cI, 5, .inl (aI LL))), (lta, .inl (cI, 5, .inl (aI LA)))]) (fun u => rfl) (fun r u H locs hpo hP hD hS => ?_)
  obtain rfl := hpo
  refine r_if_eq S (tgt := 17) dX1_lit_5 (by decide) ⟨by decide, by decide⟩ (fun c5 => ?_) (fun c5 => ?_)
  · exact absurd c5 (by decide)
  · refine lv_aload_n S.1 S.2.1 dX1_lit_8 rfl (lv_at hl 0 rfl) ?_
    refine r_get S hi1 hK hP 0 rfl rfl 3 (by decide) (by decide +kernel) rfl rfl dX1_lit_9 ?_
    refine lv_iload_n S.1 S.2.1 dX1_lit_12 rfl (lv_at hl 1 rfl) ?_
    refine r_iald S hK hP 3 0 rfl rfl k (rfl) (by omega) (by decide) dX1_lit_13 ?_
    refine r_goto S (tgt := 18) dX1_lit_14 (by decide) ?_
    subst hQ
    exact e_iret S hr hlk hS (Nat.le_of_ble_eq_true rfl) (Nat.le_of_ble_eq_true rfl) (u := ()) (rfl) (aft_of hK hP hD) dX1_lit_18
set_option maxHeartbeats 4000000 in
set_option maxRecDepth 100000 in
theorem mX1_latest (l : Launch) (D : va_G) (cI cJ : ClassId) (Z : Nat → Nat) (sz : Nat) (lo : Nat) (lca : Nat) (lra : Nat) (lia : Nat) (lta : Nat) (n : Nat) (LX : Nat → Int) (LY : Nat → Int) (LL : Nat → Int) (LA : Nat → Int) (k : Nat) (hn : n ≤ 5) (hk : k < n) : Met l yX1_latest wsX1_latest (rmk 1 0 0 21) (va_Pc [.ref lo, .int (iI ((k : Nat) : Int))] (preW D [(cI, .int), (cJ, .long)] Z [(lo, .inr (1, [.int (iI ((n : Nat) : Int)), .ref lca, .ref lra, .ref lia, .ref lta])), (lca, .inl (cI, 5, .inl (aI LX))), (lra, .inl (cI, 5, .inl (aI LY))), (lia, .inl (cI, 5, .inl (aI LL))), (lta, .inl (cI, 5, .inl (aI LA)))] sz)) (va_Qi (fun (r : Int32) (u : Unit) => r = iI (LA k)) (fun (u : Unit) t => aftW D [(cI, .int), (cJ, .long)] [(lo, .inr (1, [.int (iI ((n : Nat) : Int)), .ref lca, .ref lra, .ref lia, .ref lta])), (lca, .inl (cI, 5, .inl (aI LX))), (lra, .inl (cI, 5, .inl (aI LY))), (lia, .inl (cI, 5, .inl (aI LL))), (lta, .inl (cI, 5, .inl (aI LA)))] (va_A [(lo, .inr (1, [.int (iI ((n : Nat) : Int)), .ref lca, .ref lra, .ref lia, .ref lta])), (lca, .inl (cI, 5, .inl (aI LX))), (lra, .inl (cI, 5, .inl (aI LY))), (lia, .inl (cI, 5, .inl (aI LL))), (lta, .inl (cI, 5, .inl (aI LA)))] sz) t) (va_A [(lo, .inr (1, [.int (iI ((n : Nat) : Int)), .ref lca, .ref lra, .ref lia, .ref lta])), (lca, .inl (cI, 5, .inl (aI LX))), (lra, .inl (cI, 5, .inl (aI LY))), (lia, .inl (cI, 5, .inl (aI LL))), (lta, .inl (cI, 5, .inl (aI LA)))] sz)) 0 0 (va_A [(lo, .inr (1, [.int (iI ((n : Nat) : Int)), .ref lca, .ref lra, .ref lia, .ref lta])), (lca, .inl (cI, 5, .inl (aI LX))), (lra, .inl (cI, 5, .inl (aI LY))), (lia, .inl (cI, 5, .inl (aI LL))), (lta, .inl (cI, 5, .inl (aI LA)))] sz) := by
  refine m_of (cc := cX1_latest) (maxL := 2) (ret := (some .int)) (Qc := fun A => va_Qi (fun (r : Int32) (u : Unit) => r = iI (LA k)) (fun (u : Unit) t => aftW D [(cI, .int), (cJ, .long)] [(lo, .inr (1, [.int (iI ((n : Nat) : Int)), .ref lca, .ref lra, .ref lia, .ref lta])), (lca, .inl (cI, 5, .inl (aI LX))), (lra, .inl (cI, 5, .inl (aI LY))), (lia, .inl (cI, 5, .inl (aI LL))), (lta, .inl (cI, 5, .inl (aI LA)))] A t) A) RX1 [(0, .ref lo), (1, .int (iI ((k : Nat) : Int)))] (by decide) rfl rfl (Nat.le_of_ble_eq_true rfl) rfl (fun p e s m below meth c A ls Q S hr hlk hnm hAe hsz hP hK hD hA hZ hS hl hQ => ?_)
  have hi1 : ∀ w ∈ u_ws RX1 TX1 5, w ∈ wsX1_latest := by decide +kernel
  refine lv_aload_n S.1 S.2.1 dX1_latest_0 rfl (lv_at hl 0 rfl) ?_
  refine lv_iload_n S.1 S.2.1 dX1_latest_1 rfl (lv_at hl 1 rfl) ?_
  refine k_i (wr := []) (va_runV (As := [.int (iI ((k : Nat) : Int))]) (rest := []) S (mX1_isLamp l D cI cJ Z _ lo lca lra lia lta n LX LY LL LA k (by first | assumption | omega | exact ⟨by omega, by omega⟩) (by first | assumption | omega | exact ⟨by omega, by omega⟩)) (cwV 1 S.2.2.2.2 gX1_latest_X1_isLamp rfl rfl rfl (by decide +kernel) ⟨Nat.le_of_ble_eq_true rfl, Nat.le_of_ble_eq_true rfl⟩) (preV_of hK hP hD hS hA hZ [0, 1, 2, 3, 4] (by decide) rfl 0 1 rfl rfl) rfl rfl hl.1 rfl (lv_room (Nat.le_of_ble_eq_true rfl)) dX1_latest_2 ⟨Nat.le_of_ble_eq_true rfl, Nat.le_of_ble_eq_true rfl⟩) hP hD hS hA [0, 1, 2, 3, 4] [] rfl rfl (by decide) (by decide) [0, 1, 2, 3, 4] (by decide) (fun u => [(lo, .inr (1, [.int (iI ((n : Nat) : Int)), .ref lca, .ref lra, .ref lia, .ref lta])), (lca, .inl (cI, 5, .inl (aI LX))), (lra, .inl (cI, 5, .inl (aI LY))), (lia, .inl (cI, 5, .inl (aI LL))), (lta, .inl (cI, 5, .inl (aI LA)))]) (fun u => rfl) (fun r u H locs hpo hP hD hS => ?_)
  obtain rfl := hpo
  refine r_if_eq S (tgt := 17) dX1_latest_5 (by decide) ⟨by decide, by decide⟩ (fun c5 => ?_) (fun c5 => ?_)
  · exact absurd c5 (by decide)
  · refine lv_aload_n S.1 S.2.1 dX1_latest_8 rfl (lv_at hl 0 rfl) ?_
    refine r_get S hi1 hK hP 0 rfl rfl 4 (by decide) (by decide +kernel) rfl rfl dX1_latest_9 ?_
    refine lv_iload_n S.1 S.2.1 dX1_latest_12 rfl (lv_at hl 1 rfl) ?_
    refine r_iald S hK hP 4 0 rfl rfl k (rfl) (by omega) (by decide) dX1_latest_13 ?_
    refine r_goto S (tgt := 18) dX1_latest_14 (by decide) ?_
    subst hQ
    exact e_iret S hr hlk hS (Nat.le_of_ble_eq_true rfl) (Nat.le_of_ble_eq_true rfl) (u := ()) (rfl) (aft_of hK hP hD) dX1_latest_18
set_option maxHeartbeats 4000000 in
set_option maxRecDepth 100000 in
theorem mX1_add (l : Launch) (D : va_G) (cI cJ : ClassId) (Z : Nat → Nat) (sz : Nat) (lo : Nat) (lca : Nat) (lra : Nat) (lia : Nat) (lta : Nat) (n : Nat) (LX : Nat → Int) (LY : Nat → Int) (LL : Nat → Int) (LA : Nat → Int) (x : Int) (y : Int) (hn : n < 5) : Met l yX1_add wsX1_add (rmk 0 0 0 0) (va_Pc [.ref lo, .int (iI x), .int (iI y)] (preW D [(cI, .int), (cJ, .long)] Z [(lo, .inr (1, [.int (iI ((n : Nat) : Int)), .ref lca, .ref lra, .ref lia, .ref lta])), (lca, .inl (cI, 5, .inl (aI LX))), (lra, .inl (cI, 5, .inl (aI LY))), (lia, .inl (cI, 5, .inl (aI LL))), (lta, .inl (cI, 5, .inl (aI LA)))] sz)) (va_Qi (fun (r : Int32) (u : Unit) => r = iI ((n : Nat) : Int)) (fun (u : Unit) t => aftW D [(cI, .int), (cJ, .long)] [(lo, .inr (1, [.int (iI ((n + 1 : Nat) : Int)), .ref lca, .ref lra, .ref lia, .ref lta])), (lca, .inl (cI, 5, .inl (aI (upZ LX n x)))), (lra, .inl (cI, 5, .inl (aI (upZ LY n y)))), (lia, .inl (cI, 5, .inl (aI (upZ LL n 0)))), (lta, .inl (cI, 5, .inl (aI (upZ LA n 0))))] (va_A [(lo, .inr (1, [.int (iI ((n : Nat) : Int)), .ref lca, .ref lra, .ref lia, .ref lta])), (lca, .inl (cI, 5, .inl (aI LX))), (lra, .inl (cI, 5, .inl (aI LY))), (lia, .inl (cI, 5, .inl (aI LL))), (lta, .inl (cI, 5, .inl (aI LA)))] sz) t) (va_A [(lo, .inr (1, [.int (iI ((n : Nat) : Int)), .ref lca, .ref lra, .ref lia, .ref lta])), (lca, .inl (cI, 5, .inl (aI LX))), (lra, .inl (cI, 5, .inl (aI LY))), (lia, .inl (cI, 5, .inl (aI LL))), (lta, .inl (cI, 5, .inl (aI LA)))] sz)) 0 0 (va_A [(lo, .inr (1, [.int (iI ((n : Nat) : Int)), .ref lca, .ref lra, .ref lia, .ref lta])), (lca, .inl (cI, 5, .inl (aI LX))), (lra, .inl (cI, 5, .inl (aI LY))), (lia, .inl (cI, 5, .inl (aI LL))), (lta, .inl (cI, 5, .inl (aI LA)))] sz) := by
  refine m_of (cc := cX1_add) (maxL := 3) (ret := (some .int)) (Qc := fun A => va_Qi (fun (r : Int32) (u : Unit) => r = iI ((n : Nat) : Int)) (fun (u : Unit) t => aftW D [(cI, .int), (cJ, .long)] [(lo, .inr (1, [.int (iI ((n + 1 : Nat) : Int)), .ref lca, .ref lra, .ref lia, .ref lta])), (lca, .inl (cI, 5, .inl (aI (upZ LX n x)))), (lra, .inl (cI, 5, .inl (aI (upZ LY n y)))), (lia, .inl (cI, 5, .inl (aI (upZ LL n 0)))), (lta, .inl (cI, 5, .inl (aI (upZ LA n 0))))] A t) A) RX1 [(0, .ref lo), (1, .int (iI x)), (2, .int (iI y))] (by decide) rfl rfl (Nat.le_of_ble_eq_true rfl) rfl (fun p e s m below meth c A ls Q S hr hlk hnm hAe hsz hP hK hD hA hZ hS hl hQ => ?_)
  have hi1 : ∀ w ∈ u_ws RX1 TX1 5, w ∈ wsX1_add := by decide +kernel
  refine lv_aload_n S.1 S.2.1 dX1_add_0 rfl (lv_at hl 0 rfl) ?_
  refine r_get S hi1 hK hP 0 rfl rfl 0 (by decide) (by decide +kernel) rfl rfl dX1_add_1 ?_
  refine r_iconst S dX1_add_4 ?_
  refine r_icmp_lt S (tgt := 10) dX1_add_5 (by decide) ⟨by omega, by omega⟩ ⟨by decide, by decide⟩ (fun c5 => ?_) (fun c5 => ?_)
  · refine lv_aload_n S.1 S.2.1 dX1_add_10 rfl (lv_at hl 0 rfl) ?_
    refine r_get S hi1 hK hP 0 rfl rfl 1 (by decide) (by decide +kernel) rfl rfl dX1_add_11 ?_
    refine lv_aload_n S.1 S.2.1 dX1_add_14 rfl (lv_at hl 0 rfl) ?_
    refine r_get S hi1 hK hP 0 rfl rfl 0 (by decide) (by decide +kernel) rfl rfl dX1_add_15 ?_
    refine lv_iload_n S.1 S.2.1 dX1_add_18 rfl (lv_at hl 1 rfl) ?_
    refine r_iast S hK hP hD hS 1 0 rfl rfl n (rfl) (by omega) (by decide) dX1_add_19 [(lo, .inr (1, [.int (iI ((n : Nat) : Int)), .ref lca, .ref lra, .ref lia, .ref lta])), (lca, .inl (cI, 5, .inl (aI (upZ LX n x)))), (lra, .inl (cI, 5, .inl (aI LY))), (lia, .inl (cI, 5, .inl (aI LL))), (lta, .inl (cI, 5, .inl (aI LA)))] rfl (fun H locs hP hD hS => ?_)
    refine lv_aload_n S.1 S.2.1 dX1_add_20 rfl (lv_at hl 0 rfl) ?_
    refine r_get S hi1 hK hP 0 rfl rfl 2 (by decide) (by decide +kernel) rfl rfl dX1_add_21 ?_
    refine lv_aload_n S.1 S.2.1 dX1_add_24 rfl (lv_at hl 0 rfl) ?_
    refine r_get S hi1 hK hP 0 rfl rfl 0 (by decide) (by decide +kernel) rfl rfl dX1_add_25 ?_
    refine lv_iload_n S.1 S.2.1 dX1_add_28 rfl (lv_at hl 2 rfl) ?_
    refine r_iast S hK hP hD hS 2 0 rfl rfl n (rfl) (by omega) (by decide) dX1_add_29 [(lo, .inr (1, [.int (iI ((n : Nat) : Int)), .ref lca, .ref lra, .ref lia, .ref lta])), (lca, .inl (cI, 5, .inl (aI (upZ LX n x)))), (lra, .inl (cI, 5, .inl (aI (upZ LY n y)))), (lia, .inl (cI, 5, .inl (aI LL))), (lta, .inl (cI, 5, .inl (aI LA)))] rfl (fun H locs hP hD hS => ?_)
    refine lv_aload_n S.1 S.2.1 dX1_add_30 rfl (lv_at hl 0 rfl) ?_
    refine r_get S hi1 hK hP 0 rfl rfl 3 (by decide) (by decide +kernel) rfl rfl dX1_add_31 ?_
    refine lv_aload_n S.1 S.2.1 dX1_add_34 rfl (lv_at hl 0 rfl) ?_
    refine r_get S hi1 hK hP 0 rfl rfl 0 (by decide) (by decide +kernel) rfl rfl dX1_add_35 ?_
    refine r_iconst S dX1_add_38 ?_
    refine r_iast S hK hP hD hS 3 0 rfl rfl n (rfl) (by omega) (by decide) dX1_add_39 [(lo, .inr (1, [.int (iI ((n : Nat) : Int)), .ref lca, .ref lra, .ref lia, .ref lta])), (lca, .inl (cI, 5, .inl (aI (upZ LX n x)))), (lra, .inl (cI, 5, .inl (aI (upZ LY n y)))), (lia, .inl (cI, 5, .inl (aI (upZ LL n 0)))), (lta, .inl (cI, 5, .inl (aI LA)))] rfl (fun H locs hP hD hS => ?_)
    refine lv_aload_n S.1 S.2.1 dX1_add_40 rfl (lv_at hl 0 rfl) ?_
    refine r_get S hi1 hK hP 0 rfl rfl 4 (by decide) (by decide +kernel) rfl rfl dX1_add_41 ?_
    refine lv_aload_n S.1 S.2.1 dX1_add_44 rfl (lv_at hl 0 rfl) ?_
    refine r_get S hi1 hK hP 0 rfl rfl 0 (by decide) (by decide +kernel) rfl rfl dX1_add_45 ?_
    refine r_iconst S dX1_add_48 ?_
    refine r_iast S hK hP hD hS 4 0 rfl rfl n (rfl) (by omega) (by decide) dX1_add_49 [(lo, .inr (1, [.int (iI ((n : Nat) : Int)), .ref lca, .ref lra, .ref lia, .ref lta])), (lca, .inl (cI, 5, .inl (aI (upZ LX n x)))), (lra, .inl (cI, 5, .inl (aI (upZ LY n y)))), (lia, .inl (cI, 5, .inl (aI (upZ LL n 0)))), (lta, .inl (cI, 5, .inl (aI (upZ LA n 0))))] rfl (fun H locs hP hD hS => ?_)
    refine lv_aload_n S.1 S.2.1 dX1_add_50 rfl (lv_at hl 0 rfl) ?_
    refine lv_dup S.1 S.2.1 dX1_add_51 rfl ?_
    refine r_get S hi1 hK hP 0 rfl rfl 0 (by decide) (by decide +kernel) rfl rfl dX1_add_52 ?_
    refine r_iconst S dX1_add_55 ?_
    refine r_iadd S dX1_add_56 (z := ((n + 1 : Nat) : Int)) (by omega) ?_
    refine r_put S hi1 tyX1 tyX1_ok nmX1 hK hP hD hS 0 rfl rfl 0 (by decide) (by decide +kernel) rfl rfl (ty := .int) (v := .int (iI ((n + 1 : Nat) : Int))) (by decide +kernel) rfl rfl (by simp) dX1_add_57 [(lo, .inr (1, [.int (iI ((n + 1 : Nat) : Int)), .ref lca, .ref lra, .ref lia, .ref lta])), (lca, .inl (cI, 5, .inl (aI (upZ LX n x)))), (lra, .inl (cI, 5, .inl (aI (upZ LY n y)))), (lia, .inl (cI, 5, .inl (aI (upZ LL n 0)))), (lta, .inl (cI, 5, .inl (aI (upZ LA n 0))))] rfl (fun H locs hP hD hS => ?_)
    refine lv_aload_n S.1 S.2.1 dX1_add_60 rfl (lv_at hl 0 rfl) ?_
    refine r_get S hi1 hK hP 0 rfl rfl 0 (by decide) (by decide +kernel) rfl rfl dX1_add_61 ?_
    refine r_iconst S dX1_add_64 ?_
    refine r_isub S dX1_add_65 (z := ((n : Nat) : Int)) (by omega) ?_
    subst hQ
    exact e_iret S hr hlk hS (Nat.le_of_ble_eq_true rfl) (Nat.le_of_ble_eq_true rfl) (u := ()) (rfl) (aft_of hK hP hD) dX1_add_66
  · exact absurd c5 (by omega)
set_option maxHeartbeats 4000000 in
set_option maxRecDepth 100000 in
theorem mX1_litInAll (l : Launch) (D : va_G) (cI cJ : ClassId) (Z : Nat → Nat) (sz : Nat) (lo : Nat) (lca : Nat) (lra : Nat) (lia : Nat) (lta : Nat) (n : Nat) (LX : Nat → Int) (LY : Nat → Int) (LL : Nat → Int) (LA : Nat → Int) (hn : n ≤ 5) : Met l yX1_litInAll wsX1_litInAll (rmk 0 0 0 0) (va_Pc [.ref lo] (preW D [(cI, .int), (cJ, .long)] Z [(lo, .inr (1, [.int (iI ((n : Nat) : Int)), .ref lca, .ref lra, .ref lia, .ref lta])), (lca, .inl (cI, 5, .inl (aI LX))), (lra, .inl (cI, 5, .inl (aI LY))), (lia, .inl (cI, 5, .inl (aI LL))), (lta, .inl (cI, 5, .inl (aI LA)))] sz)) (va_Qi (fun (r : Int32) (u : Unit) => r = iI (sumZ LL n)) (fun (u : Unit) t => aftW D [(cI, .int), (cJ, .long)] [(lo, .inr (1, [.int (iI ((n : Nat) : Int)), .ref lca, .ref lra, .ref lia, .ref lta])), (lca, .inl (cI, 5, .inl (aI LX))), (lra, .inl (cI, 5, .inl (aI LY))), (lia, .inl (cI, 5, .inl (aI LL))), (lta, .inl (cI, 5, .inl (aI LA)))] (va_A [(lo, .inr (1, [.int (iI ((n : Nat) : Int)), .ref lca, .ref lra, .ref lia, .ref lta])), (lca, .inl (cI, 5, .inl (aI LX))), (lra, .inl (cI, 5, .inl (aI LY))), (lia, .inl (cI, 5, .inl (aI LL))), (lta, .inl (cI, 5, .inl (aI LA)))] sz) t) (va_A [(lo, .inr (1, [.int (iI ((n : Nat) : Int)), .ref lca, .ref lra, .ref lia, .ref lta])), (lca, .inl (cI, 5, .inl (aI LX))), (lra, .inl (cI, 5, .inl (aI LY))), (lia, .inl (cI, 5, .inl (aI LL))), (lta, .inl (cI, 5, .inl (aI LA)))] sz)) 0 0 (va_A [(lo, .inr (1, [.int (iI ((n : Nat) : Int)), .ref lca, .ref lra, .ref lia, .ref lta])), (lca, .inl (cI, 5, .inl (aI LX))), (lra, .inl (cI, 5, .inl (aI LY))), (lia, .inl (cI, 5, .inl (aI LL))), (lta, .inl (cI, 5, .inl (aI LA)))] sz) := by
  refine m_of (cc := cX1_litInAll) (maxL := 3) (ret := (some .int)) (Qc := fun A => va_Qi (fun (r : Int32) (u : Unit) => r = iI (sumZ LL n)) (fun (u : Unit) t => aftW D [(cI, .int), (cJ, .long)] [(lo, .inr (1, [.int (iI ((n : Nat) : Int)), .ref lca, .ref lra, .ref lia, .ref lta])), (lca, .inl (cI, 5, .inl (aI LX))), (lra, .inl (cI, 5, .inl (aI LY))), (lia, .inl (cI, 5, .inl (aI LL))), (lta, .inl (cI, 5, .inl (aI LA)))] A t) A) RX1 [(0, .ref lo)] (by decide) rfl rfl (Nat.le_of_ble_eq_true rfl) rfl (fun p e s m below meth c A ls Q S hr hlk hnm hAe hsz hP hK hD hA hZ hS hl hQ => ?_)
  have hi1 : ∀ w ∈ u_ws RX1 TX1 5, w ∈ wsX1_litInAll := by decide +kernel
  refine r_iconst S dX1_litInAll_0 ?_
  refine lv_istore_n (lv' := [(1, .int (iI 0)), (0, .ref lo)]) S.1 S.2.1 dX1_litInAll_1 rfl hl (by decide) rfl (fun ls hl => ?_)
  refine r_iconst S dX1_litInAll_2 ?_
  refine lv_istore_n (lv' := [(2, .int (iI 0)), (1, .int (iI 0)), (0, .ref lo)]) S.1 S.2.1 dX1_litInAll_3 rfl hl (by decide) rfl (fun ls hl => ?_)
  have lp4 : ∀ (fu : Nat) (i : Nat) (v : Int), n - i < fu → (i ≤ n) → (v = sumZ LL i) → ∀ (H : Heap) (locs : List Loc) (ls : Array Slot), va_P D vwCl [(lo, .inr (1, [.int (iI ((n : Nat) : Int)), .ref lca, .ref lra, .ref lia, .ref lta])), (lca, .inl (cI, 5, .inl (aI LX))), (lra, .inl (cI, 5, .inl (aI LY))), (lia, .inl (cI, 5, .inl (aI LL))), (lta, .inl (cI, 5, .inl (aI LA)))] H → va_D A [(lo, .inr (1, [.int (iI ((n : Nat) : Int)), .ref lca, .ref lra, .ref lia, .ref lta])), (lca, .inl (cI, 5, .inl (aI LX))), (lra, .inl (cI, 5, .inl (aI LY))), (lia, .inl (cI, 5, .inl (aI LL))), (lta, .inl (cI, 5, .inl (aI LA)))] → va_S A s.heap H locs → lv_has ls 3 [(0, .ref lo), (1, .int (iI v)), (2, .int (iI ((i : Nat) : Int)))] → W p l e (rmk 0 0 0 0) s m ([.ref lo] : List Value).toArray below meth c H locs 0 0 Q (F0 m 4 ls []) := by
    intro fu
    induction fu with
    | zero => intro i v hmu; exact absurd hmu (Nat.not_lt_zero _)
    | succ fu ih_lp4 =>
      intro i v hmu hi hv H locs ls hP hD hS hl
      refine lv_iload_n S.1 S.2.1 dX1_litInAll_4 rfl (lv_at hl 2 rfl) ?_
      refine lv_aload_n S.1 S.2.1 dX1_litInAll_5 rfl (lv_at hl 0 rfl) ?_
      refine r_get S hi1 hK hP 0 rfl rfl 0 (by decide) (by decide +kernel) rfl rfl dX1_litInAll_6 ?_
      refine r_icmp_ge S (tgt := 27) dX1_litInAll_9 (by decide) ⟨by omega, by omega⟩ ⟨by omega, by omega⟩ (fun c9 => ?_) (fun c9 => ?_)
      · refine lv_iload_n S.1 S.2.1 dX1_litInAll_27 rfl (lv_at hl 1 rfl) ?_
        subst hQ
        exact e_iret S hr hlk hS (Nat.le_of_ble_eq_true rfl) (Nat.le_of_ble_eq_true rfl) (u := ()) (by rw [hv, show i = n by omega]) (aft_of hK hP hD) dX1_litInAll_28
      · refine lv_iload_n S.1 S.2.1 dX1_litInAll_12 rfl (lv_at hl 1 rfl) ?_
        refine lv_aload_n S.1 S.2.1 dX1_litInAll_13 rfl (lv_at hl 0 rfl) ?_
        refine r_get S hi1 hK hP 0 rfl rfl 3 (by decide) (by decide +kernel) rfl rfl dX1_litInAll_14 ?_
        refine lv_iload_n S.1 S.2.1 dX1_litInAll_17 rfl (lv_at hl 2 rfl) ?_
        refine r_iald S hK hP 3 0 rfl rfl i (rfl) (by omega) (by decide) dX1_litInAll_18 ?_
        refine r_iadd S dX1_litInAll_19 (z := (v + (LL i))) (rfl) ?_
        refine lv_istore_n (lv' := [(1, .int (iI (v + (LL i)))), (0, .ref lo), (2, .int (iI ((i : Nat) : Int)))]) S.1 S.2.1 dX1_litInAll_20 rfl hl (by decide) rfl (fun ls hl => ?_)
        refine r_iinc S (z := ((i + 1 : Nat) : Int)) (k0 := 2) (lv' := [(2, .int (iI ((i + 1 : Nat) : Int))), (1, .int (iI (v + (LL i)))), (0, .ref lo)]) dX1_litInAll_21 hl rfl (by omega) (by decide) rfl (fun ls hl => ?_)
        refine r_goto S (tgt := 4) dX1_litInAll_24 (by decide) ?_
        exact ih_lp4 (i + 1) (v + (LL i)) (by omega) (by omega) (by rw [sumZ_s, hv]) _ _ _ hP hD hS (lv_sub hl [2, 1, 0] rfl)
  exact lp4 _ 0 0 (Nat.lt_succ_self _) (by omega) rfl _ _ _ hP hD hS (lv_sub hl [2, 1, 0] rfl)
set_option maxHeartbeats 4000000 in
set_option maxRecDepth 100000 in
theorem mX1_isAlight (l : Launch) (D : va_G) (cI cJ : ClassId) (Z : Nat → Nat) (sz : Nat) (lo : Nat) (lca : Nat) (lra : Nat) (lia : Nat) (lta : Nat) (n : Nat) (LX : Nat → Int) (LY : Nat → Int) (LL : Nat → Int) (LA : Nat → Int) (b : Nat) (ak : Nat) (ah : Nat) (w : Nat) (h : Nat) (K : Nat → Int) (B : Nat → Int) (k : Nat) (hn : n ≤ 5) (hww : 3 ≤ w ∧ w ≤ 10) (hhh : 3 ≤ h ∧ h ≤ 10) (hKK : okK K) (hL : ∀ k, k < n → (-1000 ≤ LX k ∧ LX k ≤ 1000) ∧ -1000 ≤ LY k ∧ LY k ≤ 1000) (hk : k < n) : Met l yX1_isAlight wsX1_isAlight (rmk 1 0 0 22) (va_Pc [.ref lo, .ref b, .int (iI ((k : Nat) : Int))] (preW D [(cI, .int), (cJ, .long)] Z [(lo, .inr (1, [.int (iI ((n : Nat) : Int)), .ref lca, .ref lra, .ref lia, .ref lta])), (lca, .inl (cI, 5, .inl (aI LX))), (lra, .inl (cI, 5, .inl (aI LY))), (lia, .inl (cI, 5, .inl (aI LL))), (lta, .inl (cI, 5, .inl (aI LA))), (b, .inr (0, [.int (iI ((w : Nat) : Int)), .int (iI ((h : Nat) : Int)), .ref ak, .ref ah])), (ak, .inl (cI, 100, .inl (aI K))), (ah, .inl (cI, 100, .inl (aI B)))] sz)) (va_Qi (fun (r : Int32) (u : Unit) => r = iI (if seeK w h K LX LY k = 2 then 1 else 0)) (fun (u : Unit) t => aftW D [(cI, .int), (cJ, .long)] [(lo, .inr (1, [.int (iI ((n : Nat) : Int)), .ref lca, .ref lra, .ref lia, .ref lta])), (lca, .inl (cI, 5, .inl (aI LX))), (lra, .inl (cI, 5, .inl (aI LY))), (lia, .inl (cI, 5, .inl (aI LL))), (lta, .inl (cI, 5, .inl (aI LA))), (b, .inr (0, [.int (iI ((w : Nat) : Int)), .int (iI ((h : Nat) : Int)), .ref ak, .ref ah])), (ak, .inl (cI, 100, .inl (aI K))), (ah, .inl (cI, 100, .inl (aI B)))] (va_A [(lo, .inr (1, [.int (iI ((n : Nat) : Int)), .ref lca, .ref lra, .ref lia, .ref lta])), (lca, .inl (cI, 5, .inl (aI LX))), (lra, .inl (cI, 5, .inl (aI LY))), (lia, .inl (cI, 5, .inl (aI LL))), (lta, .inl (cI, 5, .inl (aI LA))), (b, .inr (0, [.int (iI ((w : Nat) : Int)), .int (iI ((h : Nat) : Int)), .ref ak, .ref ah])), (ak, .inl (cI, 100, .inl (aI K))), (ah, .inl (cI, 100, .inl (aI B)))] sz) t) (va_A [(lo, .inr (1, [.int (iI ((n : Nat) : Int)), .ref lca, .ref lra, .ref lia, .ref lta])), (lca, .inl (cI, 5, .inl (aI LX))), (lra, .inl (cI, 5, .inl (aI LY))), (lia, .inl (cI, 5, .inl (aI LL))), (lta, .inl (cI, 5, .inl (aI LA))), (b, .inr (0, [.int (iI ((w : Nat) : Int)), .int (iI ((h : Nat) : Int)), .ref ak, .ref ah])), (ak, .inl (cI, 100, .inl (aI K))), (ah, .inl (cI, 100, .inl (aI B)))] sz)) 0 0 (va_A [(lo, .inr (1, [.int (iI ((n : Nat) : Int)), .ref lca, .ref lra, .ref lia, .ref lta])), (lca, .inl (cI, 5, .inl (aI LX))), (lra, .inl (cI, 5, .inl (aI LY))), (lia, .inl (cI, 5, .inl (aI LL))), (lta, .inl (cI, 5, .inl (aI LA))), (b, .inr (0, [.int (iI ((w : Nat) : Int)), .int (iI ((h : Nat) : Int)), .ref ak, .ref ah])), (ak, .inl (cI, 100, .inl (aI K))), (ah, .inl (cI, 100, .inl (aI B)))] sz) := by
  refine m_of (cc := cX1_isAlight) (maxL := 3) (ret := (some .boolean)) (Qc := fun A => va_Qi (fun (r : Int32) (u : Unit) => r = iI (if seeK w h K LX LY k = 2 then 1 else 0)) (fun (u : Unit) t => aftW D [(cI, .int), (cJ, .long)] [(lo, .inr (1, [.int (iI ((n : Nat) : Int)), .ref lca, .ref lra, .ref lia, .ref lta])), (lca, .inl (cI, 5, .inl (aI LX))), (lra, .inl (cI, 5, .inl (aI LY))), (lia, .inl (cI, 5, .inl (aI LL))), (lta, .inl (cI, 5, .inl (aI LA))), (b, .inr (0, [.int (iI ((w : Nat) : Int)), .int (iI ((h : Nat) : Int)), .ref ak, .ref ah])), (ak, .inl (cI, 100, .inl (aI K))), (ah, .inl (cI, 100, .inl (aI B)))] A t) A) RX1 [(0, .ref lo), (1, .ref b), (2, .int (iI ((k : Nat) : Int)))] (by decide) rfl rfl (Nat.le_of_ble_eq_true rfl) rfl (fun p e s m below meth c A ls Q S hr hlk hnm hAe hsz hP hK hD hA hZ hS hl hQ => ?_)
  have hi1 : ∀ w ∈ u_ws RX1 TX1 5, w ∈ wsX1_isAlight := by decide +kernel
  have hkl := hL k hk
  have hcr := cellZ_100 hww hhh (LX k) (LY k)
  have hkr := kindZ_rng hKK (cellZ w h (LX k) (LY k))
  refine lv_aload_n S.1 S.2.1 dX1_isAlight_0 rfl (lv_at hl 1 rfl) ?_
  refine lv_aload_n S.1 S.2.1 dX1_isAlight_1 rfl (lv_at hl 1 rfl) ?_
  refine lv_aload_n S.1 S.2.1 dX1_isAlight_2 rfl (lv_at hl 0 rfl) ?_
  refine r_get S hi1 hK hP 0 rfl rfl 1 (by decide) (by decide +kernel) rfl rfl dX1_isAlight_3 ?_
  refine lv_iload_n S.1 S.2.1 dX1_isAlight_6 rfl (lv_at hl 2 rfl) ?_
  refine r_iald S hK hP 1 0 rfl rfl k (rfl) (by omega) (by decide) dX1_isAlight_7 ?_
  refine lv_aload_n S.1 S.2.1 dX1_isAlight_8 rfl (lv_at hl 0 rfl) ?_
  refine r_get S hi1 hK hP 0 rfl rfl 2 (by decide) (by decide +kernel) rfl rfl dX1_isAlight_9 ?_
  refine lv_iload_n S.1 S.2.1 dX1_isAlight_12 rfl (lv_at hl 2 rfl) ?_
  refine r_iald S hK hP 2 0 rfl rfl k (rfl) (by omega) (by decide) dX1_isAlight_13 ?_
  refine k_i (wr := [(lo, .inr (1, [.int (iI ((n : Nat) : Int)), .ref lca, .ref lra, .ref lia, .ref lta])), (lca, .inl (cI, 5, .inl (aI LX))), (lra, .inl (cI, 5, .inl (aI LY))), (lia, .inl (cI, 5, .inl (aI LL))), (lta, .inl (cI, 5, .inl (aI LA)))]) (va_runV (As := [.int (iI (LX k)), .int (iI (LY k))]) (rest := [.ref b]) S (mX0_cell l D cI cJ Z _ b ak ah w h K B (LX k) (LY k) (by first | assumption | omega | exact ⟨by omega, by omega⟩) (by first | assumption | omega | exact ⟨by omega, by omega⟩) (by first | assumption | omega | exact ⟨by omega, by omega⟩) (by first | assumption | omega | exact ⟨by omega, by omega⟩)) (cwV 2 S.2.2.2.2 gX1_isAlight_X0_cell rfl rfl rfl (by decide +kernel) ⟨Nat.le_of_ble_eq_true rfl, Nat.le_of_ble_eq_true rfl⟩) (preV_of hK hP hD hS hA hZ [5, 6, 7] (by decide) rfl 0 0 rfl rfl) rfl rfl hl.1 rfl (lv_room (Nat.le_of_ble_eq_true rfl)) dX1_isAlight_14 ⟨Nat.le_of_ble_eq_true rfl, Nat.le_of_ble_eq_true rfl⟩) hP hD hS hA [5, 6, 7] [0, 1, 2, 3, 4] rfl rfl (by decide) (by decide) [0, 1, 2, 3, 4, 5, 6, 7] (by decide) (fun u => [(lo, .inr (1, [.int (iI ((n : Nat) : Int)), .ref lca, .ref lra, .ref lia, .ref lta])), (lca, .inl (cI, 5, .inl (aI LX))), (lra, .inl (cI, 5, .inl (aI LY))), (lia, .inl (cI, 5, .inl (aI LL))), (lta, .inl (cI, 5, .inl (aI LA))), (b, .inr (0, [.int (iI ((w : Nat) : Int)), .int (iI ((h : Nat) : Int)), .ref ak, .ref ah])), (ak, .inl (cI, 100, .inl (aI K))), (ah, .inl (cI, 100, .inl (aI B)))]) (fun u => rfl) (fun r u H locs hpo hP hD hS => ?_)
  obtain rfl := hpo
  refine k_i (wr := [(lo, .inr (1, [.int (iI ((n : Nat) : Int)), .ref lca, .ref lra, .ref lia, .ref lta])), (lca, .inl (cI, 5, .inl (aI LX))), (lra, .inl (cI, 5, .inl (aI LY))), (lia, .inl (cI, 5, .inl (aI LL))), (lta, .inl (cI, 5, .inl (aI LA)))]) (va_runV (As := [.int (iI (cellZ w h (LX k) (LY k)))]) (rest := []) S (mX0_kind l D cI cJ Z _ b ak ah w h K B (cellZ w h (LX k) (LY k)) (by first | assumption | omega | exact ⟨by omega, by omega⟩) (by first | assumption | omega | exact ⟨by omega, by omega⟩) (by first | assumption | omega | exact ⟨by omega, by omega⟩)) (cwV 1 S.2.2.2.2 gX1_isAlight_X0_kind rfl rfl rfl (by decide +kernel) ⟨Nat.le_of_ble_eq_true rfl, Nat.le_of_ble_eq_true rfl⟩) (preV_of hK hP hD hS hA hZ [5, 6, 7] (by decide) rfl 0 0 rfl rfl) rfl rfl hl.1 rfl (lv_room (Nat.le_of_ble_eq_true rfl)) dX1_isAlight_17 ⟨Nat.le_of_ble_eq_true rfl, Nat.le_of_ble_eq_true rfl⟩) hP hD hS hA [5, 6, 7] [0, 1, 2, 3, 4] rfl rfl (by decide) (by decide) [0, 1, 2, 3, 4, 5, 6, 7] (by decide) (fun u => [(lo, .inr (1, [.int (iI ((n : Nat) : Int)), .ref lca, .ref lra, .ref lia, .ref lta])), (lca, .inl (cI, 5, .inl (aI LX))), (lra, .inl (cI, 5, .inl (aI LY))), (lia, .inl (cI, 5, .inl (aI LL))), (lta, .inl (cI, 5, .inl (aI LA))), (b, .inr (0, [.int (iI ((w : Nat) : Int)), .int (iI ((h : Nat) : Int)), .ref ak, .ref ah])), (ak, .inl (cI, 100, .inl (aI K))), (ah, .inl (cI, 100, .inl (aI B)))]) (fun u => rfl) (fun r u H locs hpo hP hD hS => ?_)
  obtain rfl := hpo
  refine r_iconst S dX1_isAlight_20 ?_
  refine r_icmp_ne S (tgt := 28) dX1_isAlight_21 (by decide) ⟨by omega, by omega⟩ ⟨by decide, by decide⟩ (fun c21 => ?_) (fun c21 => ?_)
  · refine r_iconst S dX1_isAlight_28 ?_
    subst hQ
    exact e_zret S hr hlk hS (Nat.le_of_ble_eq_true rfl) (Nat.le_of_ble_eq_true rfl) (by omega) (u := ()) (by first | (rw [if_pos (by exact c21)]) | (rw [if_neg (by exact c21)])) (aft_of hK hP hD) dX1_isAlight_29
  · refine r_iconst S dX1_isAlight_24 ?_
    refine r_goto S (tgt := 29) dX1_isAlight_25 (by decide) ?_
    subst hQ
    exact e_zret S hr hlk hS (Nat.le_of_ble_eq_true rfl) (Nat.le_of_ble_eq_true rfl) (by omega) (u := ()) (by first | (rw [if_pos (by exact c21)]) | (rw [if_neg (by exact c21)])) (aft_of hK hP hD) dX1_isAlight_29
set_option maxHeartbeats 4000000 in
set_option maxRecDepth 100000 in
theorem mX1_alight (l : Launch) (D : va_G) (cI cJ : ClassId) (Z : Nat → Nat) (sz : Nat) (lo : Nat) (lca : Nat) (lra : Nat) (lia : Nat) (lta : Nat) (n : Nat) (LX : Nat → Int) (LY : Nat → Int) (LL : Nat → Int) (LA : Nat → Int) (b : Nat) (ak : Nat) (ah : Nat) (w : Nat) (h : Nat) (K : Nat → Int) (B : Nat → Int) (hn : n ≤ 5) (hww : 3 ≤ w ∧ w ≤ 10) (hhh : 3 ≤ h ∧ h ≤ 10) (hKK : okK K) (hL : ∀ k, k < n → (-1000 ≤ LX k ∧ LX k ≤ 1000) ∧ -1000 ≤ LY k ∧ LY k ≤ 1000) : Met l yX1_alight wsX1_alight (rmk 2 0 0 44) (va_Pc [.ref lo, .ref b] (preW D [(cI, .int), (cJ, .long)] Z [(lo, .inr (1, [.int (iI ((n : Nat) : Int)), .ref lca, .ref lra, .ref lia, .ref lta])), (lca, .inl (cI, 5, .inl (aI LX))), (lra, .inl (cI, 5, .inl (aI LY))), (lia, .inl (cI, 5, .inl (aI LL))), (lta, .inl (cI, 5, .inl (aI LA))), (b, .inr (0, [.int (iI ((w : Nat) : Int)), .int (iI ((h : Nat) : Int)), .ref ak, .ref ah])), (ak, .inl (cI, 100, .inl (aI K))), (ah, .inl (cI, 100, .inl (aI B)))] sz)) (va_Qi (fun (r : Int32) (u : Unit) => r = iI ((cntI (seeK w h K LX LY) 2 n : Nat) : Int)) (fun (u : Unit) t => aftW D [(cI, .int), (cJ, .long)] [(lo, .inr (1, [.int (iI ((n : Nat) : Int)), .ref lca, .ref lra, .ref lia, .ref lta])), (lca, .inl (cI, 5, .inl (aI LX))), (lra, .inl (cI, 5, .inl (aI LY))), (lia, .inl (cI, 5, .inl (aI LL))), (lta, .inl (cI, 5, .inl (aI LA))), (b, .inr (0, [.int (iI ((w : Nat) : Int)), .int (iI ((h : Nat) : Int)), .ref ak, .ref ah])), (ak, .inl (cI, 100, .inl (aI K))), (ah, .inl (cI, 100, .inl (aI B)))] (va_A [(lo, .inr (1, [.int (iI ((n : Nat) : Int)), .ref lca, .ref lra, .ref lia, .ref lta])), (lca, .inl (cI, 5, .inl (aI LX))), (lra, .inl (cI, 5, .inl (aI LY))), (lia, .inl (cI, 5, .inl (aI LL))), (lta, .inl (cI, 5, .inl (aI LA))), (b, .inr (0, [.int (iI ((w : Nat) : Int)), .int (iI ((h : Nat) : Int)), .ref ak, .ref ah])), (ak, .inl (cI, 100, .inl (aI K))), (ah, .inl (cI, 100, .inl (aI B)))] sz) t) (va_A [(lo, .inr (1, [.int (iI ((n : Nat) : Int)), .ref lca, .ref lra, .ref lia, .ref lta])), (lca, .inl (cI, 5, .inl (aI LX))), (lra, .inl (cI, 5, .inl (aI LY))), (lia, .inl (cI, 5, .inl (aI LL))), (lta, .inl (cI, 5, .inl (aI LA))), (b, .inr (0, [.int (iI ((w : Nat) : Int)), .int (iI ((h : Nat) : Int)), .ref ak, .ref ah])), (ak, .inl (cI, 100, .inl (aI K))), (ah, .inl (cI, 100, .inl (aI B)))] sz)) 0 0 (va_A [(lo, .inr (1, [.int (iI ((n : Nat) : Int)), .ref lca, .ref lra, .ref lia, .ref lta])), (lca, .inl (cI, 5, .inl (aI LX))), (lra, .inl (cI, 5, .inl (aI LY))), (lia, .inl (cI, 5, .inl (aI LL))), (lta, .inl (cI, 5, .inl (aI LA))), (b, .inr (0, [.int (iI ((w : Nat) : Int)), .int (iI ((h : Nat) : Int)), .ref ak, .ref ah])), (ak, .inl (cI, 100, .inl (aI K))), (ah, .inl (cI, 100, .inl (aI B)))] sz) := by
  refine m_of (cc := cX1_alight) (maxL := 4) (ret := (some .int)) (Qc := fun A => va_Qi (fun (r : Int32) (u : Unit) => r = iI ((cntI (seeK w h K LX LY) 2 n : Nat) : Int)) (fun (u : Unit) t => aftW D [(cI, .int), (cJ, .long)] [(lo, .inr (1, [.int (iI ((n : Nat) : Int)), .ref lca, .ref lra, .ref lia, .ref lta])), (lca, .inl (cI, 5, .inl (aI LX))), (lra, .inl (cI, 5, .inl (aI LY))), (lia, .inl (cI, 5, .inl (aI LL))), (lta, .inl (cI, 5, .inl (aI LA))), (b, .inr (0, [.int (iI ((w : Nat) : Int)), .int (iI ((h : Nat) : Int)), .ref ak, .ref ah])), (ak, .inl (cI, 100, .inl (aI K))), (ah, .inl (cI, 100, .inl (aI B)))] A t) A) RX1 [(0, .ref lo), (1, .ref b)] (by decide) rfl rfl (Nat.le_of_ble_eq_true rfl) rfl (fun p e s m below meth c A ls Q S hr hlk hnm hAe hsz hP hK hD hA hZ hS hl hQ => ?_)
  have hi1 : ∀ w ∈ u_ws RX1 TX1 5, w ∈ wsX1_alight := by decide +kernel
  refine r_iconst S dX1_alight_0 ?_
  refine lv_istore_n (lv' := [(2, .int (iI 0)), (0, .ref lo), (1, .ref b)]) S.1 S.2.1 dX1_alight_1 rfl hl (by decide) rfl (fun ls hl => ?_)
  refine r_iconst S dX1_alight_2 ?_
  refine lv_istore_n (lv' := [(3, .int (iI 0)), (2, .int (iI 0)), (0, .ref lo), (1, .ref b)]) S.1 S.2.1 dX1_alight_3 rfl hl (by decide) rfl (fun ls hl => ?_)
  have lp4 : ∀ (fu : Nat) (i : Nat) (v : Int), n - i < fu → (i ≤ n) → (v = cntI (seeK w h K LX LY) 2 i) → ∀ (H : Heap) (locs : List Loc) (ls : Array Slot), va_P D vwCl [(lo, .inr (1, [.int (iI ((n : Nat) : Int)), .ref lca, .ref lra, .ref lia, .ref lta])), (lca, .inl (cI, 5, .inl (aI LX))), (lra, .inl (cI, 5, .inl (aI LY))), (lia, .inl (cI, 5, .inl (aI LL))), (lta, .inl (cI, 5, .inl (aI LA))), (b, .inr (0, [.int (iI ((w : Nat) : Int)), .int (iI ((h : Nat) : Int)), .ref ak, .ref ah])), (ak, .inl (cI, 100, .inl (aI K))), (ah, .inl (cI, 100, .inl (aI B)))] H → va_D A [(lo, .inr (1, [.int (iI ((n : Nat) : Int)), .ref lca, .ref lra, .ref lia, .ref lta])), (lca, .inl (cI, 5, .inl (aI LX))), (lra, .inl (cI, 5, .inl (aI LY))), (lia, .inl (cI, 5, .inl (aI LL))), (lta, .inl (cI, 5, .inl (aI LA))), (b, .inr (0, [.int (iI ((w : Nat) : Int)), .int (iI ((h : Nat) : Int)), .ref ak, .ref ah])), (ak, .inl (cI, 100, .inl (aI K))), (ah, .inl (cI, 100, .inl (aI B)))] → va_S A s.heap H locs → lv_has ls 4 [(0, .ref lo), (1, .ref b), (2, .int (iI v)), (3, .int (iI ((i : Nat) : Int)))] → W p l e (rmk 2 0 0 44) s m ([.ref lo, .ref b] : List Value).toArray below meth c H locs 0 0 Q (F0 m 4 ls []) := by
    intro fu
    induction fu with
    | zero => intro i v hmu; exact absurd hmu (Nat.not_lt_zero _)
    | succ fu ih_lp4 =>
      intro i v hmu hi hv H locs ls hP hD hS hl
      refine lv_iload_n S.1 S.2.1 dX1_alight_4 rfl (lv_at hl 3 rfl) ?_
      refine lv_aload_n S.1 S.2.1 dX1_alight_5 rfl (lv_at hl 0 rfl) ?_
      refine r_get S hi1 hK hP 0 rfl rfl 0 (by decide) (by decide +kernel) rfl rfl dX1_alight_6 ?_
      refine r_icmp_ge S (tgt := 30) dX1_alight_9 (by decide) ⟨by omega, by omega⟩ ⟨by omega, by omega⟩ (fun c9 => ?_) (fun c9 => ?_)
      · refine lv_iload_n S.1 S.2.1 dX1_alight_30 rfl (lv_at hl 2 rfl) ?_
        subst hQ
        exact e_iret S hr hlk hS (Nat.le_of_ble_eq_true rfl) (Nat.le_of_ble_eq_true rfl) (u := ()) (by rw [hv, show i = n by omega]) (aft_of hK hP hD) dX1_alight_31
      · refine lv_aload_n S.1 S.2.1 dX1_alight_12 rfl (lv_at hl 0 rfl) ?_
        refine lv_aload_n S.1 S.2.1 dX1_alight_13 rfl (lv_at hl 1 rfl) ?_
        refine lv_iload_n S.1 S.2.1 dX1_alight_14 rfl (lv_at hl 3 rfl) ?_
        refine k_i (wr := []) (va_runV (As := [.ref b, .int (iI ((i : Nat) : Int))]) (rest := []) S (mX1_isAlight l D cI cJ Z _ lo lca lra lia lta n LX LY LL LA b ak ah w h K B i (by first | assumption | omega | exact ⟨by omega, by omega⟩) (by first | assumption | omega | exact ⟨by omega, by omega⟩) (by first | assumption | omega | exact ⟨by omega, by omega⟩) (by first | assumption | omega | exact ⟨by omega, by omega⟩) (by first | assumption | omega | exact ⟨by omega, by omega⟩) (by first | assumption | omega | exact ⟨by omega, by omega⟩)) (cwV 2 S.2.2.2.2 gX1_alight_X1_isAlight rfl rfl rfl (by decide +kernel) ⟨Nat.le_of_ble_eq_true rfl, Nat.le_of_ble_eq_true rfl⟩) (preV_of hK hP hD hS hA hZ [0, 1, 2, 3, 4, 5, 6, 7] (by decide) rfl 0 1 rfl rfl) rfl rfl hl.1 rfl (lv_room (Nat.le_of_ble_eq_true rfl)) dX1_alight_15 ⟨Nat.le_of_ble_eq_true rfl, Nat.le_of_ble_eq_true rfl⟩) hP hD hS hA [0, 1, 2, 3, 4, 5, 6, 7] [] rfl rfl (by decide) (by decide) [0, 1, 2, 3, 4, 5, 6, 7] (by decide) (fun u => [(lo, .inr (1, [.int (iI ((n : Nat) : Int)), .ref lca, .ref lra, .ref lia, .ref lta])), (lca, .inl (cI, 5, .inl (aI LX))), (lra, .inl (cI, 5, .inl (aI LY))), (lia, .inl (cI, 5, .inl (aI LL))), (lta, .inl (cI, 5, .inl (aI LA))), (b, .inr (0, [.int (iI ((w : Nat) : Int)), .int (iI ((h : Nat) : Int)), .ref ak, .ref ah])), (ak, .inl (cI, 100, .inl (aI K))), (ah, .inl (cI, 100, .inl (aI B)))]) (fun u => rfl) (fun r u H locs hpo hP hD hS => ?_)
        obtain rfl := hpo
        have hem : (if seeK w h K LX LY i = 2 then 1 else 0) = (0 : Int) ∨ (if seeK w h K LX LY i = 2 then 1 else 0) = (1 : Int) := by split <;> omega
        refine r_if_eq S (tgt := 24) dX1_alight_18 (by decide) ⟨by omega, by omega⟩ (fun c18 => ?_) (fun c18 => ?_)
        · refine r_iinc S (z := ((i + 1 : Nat) : Int)) (k0 := 3) (lv' := [(3, .int (iI ((i + 1 : Nat) : Int))), (0, .ref lo), (1, .ref b), (2, .int (iI v))]) dX1_alight_24 hl rfl (by omega) (by decide) rfl (fun ls hl => ?_)
          refine r_goto S (tgt := 4) dX1_alight_27 (by decide) ?_
          exact ih_lp4 (i + 1) v (by omega) (by omega) (by rw [cntI_s]; split at c18 <;> split <;> omega) _ _ _ hP hD hS (lv_sub hl [1, 2, 3, 0] rfl)
        · refine r_iinc S (z := (v + 1)) (k0 := 2) (lv' := [(2, .int (iI (v + 1))), (0, .ref lo), (1, .ref b), (3, .int (iI ((i : Nat) : Int)))]) dX1_alight_21 hl rfl (rfl) (by decide) rfl (fun ls hl => ?_)
          refine r_iinc S (z := ((i + 1 : Nat) : Int)) (k0 := 3) (lv' := [(3, .int (iI ((i + 1 : Nat) : Int))), (2, .int (iI (v + 1))), (0, .ref lo), (1, .ref b)]) dX1_alight_24 hl rfl (by omega) (by decide) rfl (fun ls hl => ?_)
          refine r_goto S (tgt := 4) dX1_alight_27 (by decide) ?_
          exact ih_lp4 (i + 1) (v + 1) (by omega) (by omega) (by rw [cntI_s]; split at c18 <;> split <;> omega) _ _ _ hP hD hS (lv_sub hl [2, 3, 1, 0] rfl)
  exact lp4 _ 0 0 (Nat.lt_succ_self _) (by omega) rfl _ _ _ hP hD hS (lv_sub hl [2, 3, 1, 0] rfl)
set_option maxHeartbeats 4000000 in
set_option maxRecDepth 100000 in
theorem mX1_light (l : Launch) (D : va_G) (cI cJ : ClassId) (Z : Nat → Nat) (sz : Nat) (lo : Nat) (lca : Nat) (lra : Nat) (lia : Nat) (lta : Nat) (n : Nat) (LX : Nat → Int) (LY : Nat → Int) (LL : Nat → Int) (LA : Nat → Int) (b : Nat) (ak : Nat) (ah : Nat) (w : Nat) (h : Nat) (K : Nat → Int) (B : Nat → Int) (sn : Int) (hn : n ≤ 5) (hww : 3 ≤ w ∧ w ≤ 10) (hhh : 3 ≤ h ∧ h ≤ 10) (hKK : okK K) (hL : ∀ k, k < n → (-1000 ≤ LX k ∧ LX k ≤ 1000) ∧ -1000 ≤ LY k ∧ LY k ≤ 1000) : Met l yX1_light wsX1_light (rmk 2 0 0 44) (va_Pc [.ref lo, .ref b, .int (iI sn)] (preW D [(cI, .int), (cJ, .long)] Z [(lo, .inr (1, [.int (iI ((n : Nat) : Int)), .ref lca, .ref lra, .ref lia, .ref lta])), (lca, .inl (cI, 5, .inl (aI LX))), (lra, .inl (cI, 5, .inl (aI LY))), (lia, .inl (cI, 5, .inl (aI LL))), (lta, .inl (cI, 5, .inl (aI LA))), (b, .inr (0, [.int (iI ((w : Nat) : Int)), .int (iI ((h : Nat) : Int)), .ref ak, .ref ah])), (ak, .inl (cI, 100, .inl (aI K))), (ah, .inl (cI, 100, .inl (aI B)))] sz)) (va_Qv (fun (u : (Nat → Int) × (Nat → Int)) => u.1 = litI (seeK w h K LX LY) LL n ∧ u.2 = latI (seeK w h K LX LY) LA sn n) (fun (u : (Nat → Int) × (Nat → Int)) t => aftW D [(cI, .int), (cJ, .long)] [(lo, .inr (1, [.int (iI ((n : Nat) : Int)), .ref lca, .ref lra, .ref lia, .ref lta])), (lca, .inl (cI, 5, .inl (aI LX))), (lra, .inl (cI, 5, .inl (aI LY))), (lia, .inl (cI, 5, .inl (aI u.1))), (lta, .inl (cI, 5, .inl (aI u.2))), (b, .inr (0, [.int (iI ((w : Nat) : Int)), .int (iI ((h : Nat) : Int)), .ref ak, .ref ah])), (ak, .inl (cI, 100, .inl (aI K))), (ah, .inl (cI, 100, .inl (aI B)))] (va_A [(lo, .inr (1, [.int (iI ((n : Nat) : Int)), .ref lca, .ref lra, .ref lia, .ref lta])), (lca, .inl (cI, 5, .inl (aI LX))), (lra, .inl (cI, 5, .inl (aI LY))), (lia, .inl (cI, 5, .inl (aI LL))), (lta, .inl (cI, 5, .inl (aI LA))), (b, .inr (0, [.int (iI ((w : Nat) : Int)), .int (iI ((h : Nat) : Int)), .ref ak, .ref ah])), (ak, .inl (cI, 100, .inl (aI K))), (ah, .inl (cI, 100, .inl (aI B)))] sz) t) (va_A [(lo, .inr (1, [.int (iI ((n : Nat) : Int)), .ref lca, .ref lra, .ref lia, .ref lta])), (lca, .inl (cI, 5, .inl (aI LX))), (lra, .inl (cI, 5, .inl (aI LY))), (lia, .inl (cI, 5, .inl (aI LL))), (lta, .inl (cI, 5, .inl (aI LA))), (b, .inr (0, [.int (iI ((w : Nat) : Int)), .int (iI ((h : Nat) : Int)), .ref ak, .ref ah])), (ak, .inl (cI, 100, .inl (aI K))), (ah, .inl (cI, 100, .inl (aI B)))] sz)) 0 0 (va_A [(lo, .inr (1, [.int (iI ((n : Nat) : Int)), .ref lca, .ref lra, .ref lia, .ref lta])), (lca, .inl (cI, 5, .inl (aI LX))), (lra, .inl (cI, 5, .inl (aI LY))), (lia, .inl (cI, 5, .inl (aI LL))), (lta, .inl (cI, 5, .inl (aI LA))), (b, .inr (0, [.int (iI ((w : Nat) : Int)), .int (iI ((h : Nat) : Int)), .ref ak, .ref ah])), (ak, .inl (cI, 100, .inl (aI K))), (ah, .inl (cI, 100, .inl (aI B)))] sz) := by
  refine m_of (cc := cX1_light) (maxL := 4) (ret := none) (Qc := fun A => va_Qv (fun (u : (Nat → Int) × (Nat → Int)) => u.1 = litI (seeK w h K LX LY) LL n ∧ u.2 = latI (seeK w h K LX LY) LA sn n) (fun (u : (Nat → Int) × (Nat → Int)) t => aftW D [(cI, .int), (cJ, .long)] [(lo, .inr (1, [.int (iI ((n : Nat) : Int)), .ref lca, .ref lra, .ref lia, .ref lta])), (lca, .inl (cI, 5, .inl (aI LX))), (lra, .inl (cI, 5, .inl (aI LY))), (lia, .inl (cI, 5, .inl (aI u.1))), (lta, .inl (cI, 5, .inl (aI u.2))), (b, .inr (0, [.int (iI ((w : Nat) : Int)), .int (iI ((h : Nat) : Int)), .ref ak, .ref ah])), (ak, .inl (cI, 100, .inl (aI K))), (ah, .inl (cI, 100, .inl (aI B)))] A t) A) RX1 [(0, .ref lo), (1, .ref b), (2, .int (iI sn))] (by decide) rfl rfl (Nat.le_of_ble_eq_true rfl) rfl (fun p e s m below meth c A ls Q S hr hlk hnm hAe hsz hP hK hD hA hZ hS hl hQ => ?_)
  have hi1 : ∀ w ∈ u_ws RX1 TX1 5, w ∈ wsX1_light := by decide +kernel
  refine r_iconst S dX1_light_0 ?_
  refine lv_istore_n (lv' := [(3, .int (iI 0)), (0, .ref lo), (1, .ref b), (2, .int (iI sn))]) S.1 S.2.1 dX1_light_1 rfl hl (by decide) rfl (fun ls hl => ?_)
  have lp2 : ∀ (fu : Nat) (i : Nat) (L1 : Nat → Int) (L2 : Nat → Int), n - i < fu → (i ≤ n) → (L1 = litI (seeK w h K LX LY) LL i) → (L2 = latI (seeK w h K LX LY) LA sn i) → ∀ (H : Heap) (locs : List Loc) (ls : Array Slot), va_P D vwCl [(lo, .inr (1, [.int (iI ((n : Nat) : Int)), .ref lca, .ref lra, .ref lia, .ref lta])), (lca, .inl (cI, 5, .inl (aI LX))), (lra, .inl (cI, 5, .inl (aI LY))), (lia, .inl (cI, 5, .inl (aI L1))), (lta, .inl (cI, 5, .inl (aI L2))), (b, .inr (0, [.int (iI ((w : Nat) : Int)), .int (iI ((h : Nat) : Int)), .ref ak, .ref ah])), (ak, .inl (cI, 100, .inl (aI K))), (ah, .inl (cI, 100, .inl (aI B)))] H → va_D A [(lo, .inr (1, [.int (iI ((n : Nat) : Int)), .ref lca, .ref lra, .ref lia, .ref lta])), (lca, .inl (cI, 5, .inl (aI LX))), (lra, .inl (cI, 5, .inl (aI LY))), (lia, .inl (cI, 5, .inl (aI L1))), (lta, .inl (cI, 5, .inl (aI L2))), (b, .inr (0, [.int (iI ((w : Nat) : Int)), .int (iI ((h : Nat) : Int)), .ref ak, .ref ah])), (ak, .inl (cI, 100, .inl (aI K))), (ah, .inl (cI, 100, .inl (aI B)))] → va_S A s.heap H locs → lv_has ls 4 [(0, .ref lo), (1, .ref b), (2, .int (iI sn)), (3, .int (iI ((i : Nat) : Int)))] → W p l e (rmk 2 0 0 44) s m ([.ref lo, .ref b, .int (iI sn)] : List Value).toArray below meth c H locs 0 0 Q (F0 m 2 ls []) := by
    intro fu
    induction fu with
    | zero => intro i L1 L2 hmu; exact absurd hmu (Nat.not_lt_zero _)
    | succ fu ih_lp2 =>
      intro i L1 L2 hmu hi h1 h2 H locs ls hP hD hS hl
      refine lv_iload_n S.1 S.2.1 dX1_light_2 rfl (lv_at hl 3 rfl) ?_
      refine lv_aload_n S.1 S.2.1 dX1_light_3 rfl (lv_at hl 0 rfl) ?_
      refine r_get S hi1 hK hP 0 rfl rfl 0 (by decide) (by decide +kernel) rfl rfl dX1_light_4 ?_
      refine r_icmp_ge S (tgt := 42) dX1_light_7 (by decide) ⟨by omega, by omega⟩ ⟨by omega, by omega⟩ (fun c7 => ?_) (fun c7 => ?_)
      · subst hQ
        exact e_vret S hr hlk hS (Nat.le_of_ble_eq_true rfl) (Nat.le_of_ble_eq_true rfl) (u := (L1, L2)) (⟨by rw [h1, show i = n by omega], by rw [h2, show i = n by omega]⟩) (aft_of hK hP hD) dX1_light_42
      · refine lv_aload_n S.1 S.2.1 dX1_light_10 rfl (lv_at hl 0 rfl) ?_
        refine lv_aload_n S.1 S.2.1 dX1_light_11 rfl (lv_at hl 1 rfl) ?_
        refine lv_iload_n S.1 S.2.1 dX1_light_12 rfl (lv_at hl 3 rfl) ?_
        refine k_i (wr := []) (va_runV (As := [.ref b, .int (iI ((i : Nat) : Int))]) (rest := []) S (mX1_isAlight l D cI cJ Z _ lo lca lra lia lta n LX LY L1 L2 b ak ah w h K B i (by first | assumption | omega | exact ⟨by omega, by omega⟩) (by first | assumption | omega | exact ⟨by omega, by omega⟩) (by first | assumption | omega | exact ⟨by omega, by omega⟩) (by first | assumption | omega | exact ⟨by omega, by omega⟩) (by first | assumption | omega | exact ⟨by omega, by omega⟩) (by first | assumption | omega | exact ⟨by omega, by omega⟩)) (cwV 2 S.2.2.2.2 gX1_light_X1_isAlight rfl rfl rfl (by decide +kernel) ⟨Nat.le_of_ble_eq_true rfl, Nat.le_of_ble_eq_true rfl⟩) (preV_of hK hP hD hS hA hZ [0, 1, 2, 3, 4, 5, 6, 7] (by decide) rfl 0 1 rfl rfl) rfl rfl hl.1 rfl (lv_room (Nat.le_of_ble_eq_true rfl)) dX1_light_13 ⟨Nat.le_of_ble_eq_true rfl, Nat.le_of_ble_eq_true rfl⟩) hP hD hS hA [0, 1, 2, 3, 4, 5, 6, 7] [] rfl rfl (by decide) (by decide) [0, 1, 2, 3, 4, 5, 6, 7] (by decide) (fun u => [(lo, .inr (1, [.int (iI ((n : Nat) : Int)), .ref lca, .ref lra, .ref lia, .ref lta])), (lca, .inl (cI, 5, .inl (aI LX))), (lra, .inl (cI, 5, .inl (aI LY))), (lia, .inl (cI, 5, .inl (aI L1))), (lta, .inl (cI, 5, .inl (aI L2))), (b, .inr (0, [.int (iI ((w : Nat) : Int)), .int (iI ((h : Nat) : Int)), .ref ak, .ref ah])), (ak, .inl (cI, 100, .inl (aI K))), (ah, .inl (cI, 100, .inl (aI B)))]) (fun u => rfl) (fun r u H locs hpo hP hD hS => ?_)
        obtain rfl := hpo
        have hem : (if seeK w h K LX LY i = 2 then 1 else 0) = (0 : Int) ∨ (if seeK w h K LX LY i = 2 then 1 else 0) = (1 : Int) := by split <;> omega
        refine r_if_eq S (tgt := 36) dX1_light_16 (by decide) ⟨by omega, by omega⟩ (fun c16 => ?_) (fun c16 => ?_)
        · have hs2 : seeK w h K LX LY i ≠ 2 := by intro z; rw [if_pos z] at c16; omega
          refine r_iinc S (z := ((i + 1 : Nat) : Int)) (k0 := 3) (lv' := [(3, .int (iI ((i + 1 : Nat) : Int))), (0, .ref lo), (1, .ref b), (2, .int (iI sn))]) dX1_light_36 hl rfl (by omega) (by decide) rfl (fun ls hl => ?_)
          refine r_goto S (tgt := 2) dX1_light_39 (by decide) ?_
          exact ih_lp2 (i + 1) L1 L2 (by omega) (by omega) (by rw [h1]; first | exact litI_t hs2 | exact litI_f hs2) (by rw [h2]; first | exact latI_t hs2 | exact latI_f hs2) _ _ _ hP hD hS (lv_sub hl [1, 2, 3, 0] rfl)
        · have hs2 : seeK w h K LX LY i = 2 := by refine Decidable.byContradiction fun z => ?_; rw [if_neg z] at c16; exact c16 rfl
          refine lv_aload_n S.1 S.2.1 dX1_light_19 rfl (lv_at hl 0 rfl) ?_
          refine r_get S hi1 hK hP 0 rfl rfl 3 (by decide) (by decide +kernel) rfl rfl dX1_light_20 ?_
          refine lv_iload_n S.1 S.2.1 dX1_light_23 rfl (lv_at hl 3 rfl) ?_
          refine lv_dup2_11 S.1 S.2.1 dX1_light_24 rfl rfl ?_
          refine r_iald S hK hP 3 0 rfl rfl i (rfl) (by omega) (by decide) dX1_light_25 ?_
          refine r_iconst S dX1_light_26 ?_
          refine r_iadd S dX1_light_27 (z := ((L1 i) + 1)) (rfl) ?_
          refine r_iast S hK hP hD hS 3 0 rfl rfl i (rfl) (by omega) (by decide) dX1_light_28 [(lo, .inr (1, [.int (iI ((n : Nat) : Int)), .ref lca, .ref lra, .ref lia, .ref lta])), (lca, .inl (cI, 5, .inl (aI LX))), (lra, .inl (cI, 5, .inl (aI LY))), (lia, .inl (cI, 5, .inl (aI (upZ L1 i ((L1 i) + 1))))), (lta, .inl (cI, 5, .inl (aI L2))), (b, .inr (0, [.int (iI ((w : Nat) : Int)), .int (iI ((h : Nat) : Int)), .ref ak, .ref ah])), (ak, .inl (cI, 100, .inl (aI K))), (ah, .inl (cI, 100, .inl (aI B)))] rfl (fun H locs hP hD hS => ?_)
          refine lv_aload_n S.1 S.2.1 dX1_light_29 rfl (lv_at hl 0 rfl) ?_
          refine r_get S hi1 hK hP 0 rfl rfl 4 (by decide) (by decide +kernel) rfl rfl dX1_light_30 ?_
          refine lv_iload_n S.1 S.2.1 dX1_light_33 rfl (lv_at hl 3 rfl) ?_
          refine lv_iload_n S.1 S.2.1 dX1_light_34 rfl (lv_at hl 2 rfl) ?_
          refine r_iast S hK hP hD hS 4 0 rfl rfl i (rfl) (by omega) (by decide) dX1_light_35 [(lo, .inr (1, [.int (iI ((n : Nat) : Int)), .ref lca, .ref lra, .ref lia, .ref lta])), (lca, .inl (cI, 5, .inl (aI LX))), (lra, .inl (cI, 5, .inl (aI LY))), (lia, .inl (cI, 5, .inl (aI (upZ L1 i ((L1 i) + 1))))), (lta, .inl (cI, 5, .inl (aI (upZ L2 i sn)))), (b, .inr (0, [.int (iI ((w : Nat) : Int)), .int (iI ((h : Nat) : Int)), .ref ak, .ref ah])), (ak, .inl (cI, 100, .inl (aI K))), (ah, .inl (cI, 100, .inl (aI B)))] rfl (fun H locs hP hD hS => ?_)
          refine r_iinc S (z := ((i + 1 : Nat) : Int)) (k0 := 3) (lv' := [(3, .int (iI ((i + 1 : Nat) : Int))), (0, .ref lo), (1, .ref b), (2, .int (iI sn))]) dX1_light_36 hl rfl (by omega) (by decide) rfl (fun ls hl => ?_)
          refine r_goto S (tgt := 2) dX1_light_39 (by decide) ?_
          exact ih_lp2 (i + 1) (upZ L1 i ((L1 i) + 1)) (upZ L2 i sn) (by omega) (by omega) (by rw [h1]; first | exact litI_t hs2 | exact litI_f hs2) (by rw [h2]; first | exact latI_t hs2 | exact latI_f hs2) _ _ _ hP hD hS (lv_sub hl [1, 2, 3, 0] rfl)
  exact lp2 _ 0 LL LA (Nat.lt_succ_self _) (by omega) ((litI_0 _ _).symm) ((latI_0 _ _ _).symm) _ _ _ hP hD hS (lv_sub hl [1, 2, 3, 0] rfl)
set_option maxHeartbeats 4000000 in
set_option maxRecDepth 100000 in
theorem mX2_packed (l : Launch) (D : va_G) (cI cJ : ClassId) (Z : Nat → Nat) (sz : Nat) (b : Nat) (ak : Nat) (ah : Nat) (w : Nat) (h : Nat) (K : Nat → Int) (B : Nat → Int) (f : Nat) (hww : 3 ≤ w ∧ w ≤ 10) (hhh : 3 ≤ h ∧ h ≤ 10) (hKK : okK K) (hf : f + 25 ≤ 100) : Met l yX2_packed wsX2_packed (rmk 1 0 0 21) (va_Pc [.ref b, .int (iI ((f : Nat) : Int))] (preW D [(cI, .int), (cJ, .long)] Z [(b, .inr (0, [.int (iI ((w : Nat) : Int)), .int (iI ((h : Nat) : Int)), .ref ak, .ref ah])), (ak, .inl (cI, 100, .inl (aI K))), (ah, .inl (cI, 100, .inl (aI B)))] sz)) (va_Ql (fun (r : Int64) (u : Unit) => r = (pkZ K f 25)) (fun (u : Unit) t => aftW D [(cI, .int), (cJ, .long)] [(b, .inr (0, [.int (iI ((w : Nat) : Int)), .int (iI ((h : Nat) : Int)), .ref ak, .ref ah])), (ak, .inl (cI, 100, .inl (aI K))), (ah, .inl (cI, 100, .inl (aI B)))] (va_A [(b, .inr (0, [.int (iI ((w : Nat) : Int)), .int (iI ((h : Nat) : Int)), .ref ak, .ref ah])), (ak, .inl (cI, 100, .inl (aI K))), (ah, .inl (cI, 100, .inl (aI B)))] sz) t) (va_A [(b, .inr (0, [.int (iI ((w : Nat) : Int)), .int (iI ((h : Nat) : Int)), .ref ak, .ref ah])), (ak, .inl (cI, 100, .inl (aI K))), (ah, .inl (cI, 100, .inl (aI B)))] sz)) 0 0 (va_A [(b, .inr (0, [.int (iI ((w : Nat) : Int)), .int (iI ((h : Nat) : Int)), .ref ak, .ref ah])), (ak, .inl (cI, 100, .inl (aI K))), (ah, .inl (cI, 100, .inl (aI B)))] sz) := by
  refine m_of (cc := cX2_packed) (maxL := 5) (ret := (some .long)) (Qc := fun A => va_Ql (fun (r : Int64) (u : Unit) => r = (pkZ K f 25)) (fun (u : Unit) t => aftW D [(cI, .int), (cJ, .long)] [(b, .inr (0, [.int (iI ((w : Nat) : Int)), .int (iI ((h : Nat) : Int)), .ref ak, .ref ah])), (ak, .inl (cI, 100, .inl (aI K))), (ah, .inl (cI, 100, .inl (aI B)))] A t) A) RX2 [(0, .ref b), (1, .int (iI ((f : Nat) : Int)))] (by decide) rfl rfl (Nat.le_of_ble_eq_true rfl) rfl (fun p e s m below meth c A ls Q S hr hlk hnm hAe hsz hP hK hD hA hZ hS hl hQ => ?_)
  refine lv_lconst S.1 S.2.1 (v := 0) dX2_packed_0 (by decide) ?_
  refine lv_lstore_n (lv' := [(2, .long 0), (0, .ref b), (1, .int (iI ((f : Nat) : Int)))]) S.1 S.2.1 dX2_packed_1 rfl hl (by decide) rfl (fun ls hl => ?_)
  refine r_iconst S dX2_packed_2 ?_
  refine lv_istore (lv' := [(4, .int (iI 0)), (2, .long 0), (0, .ref b), (1, .int (iI ((f : Nat) : Int)))]) S.1 S.2.1 dX2_packed_3 hl (by decide) rfl (fun ls hl => ?_)
  have lp5 : ∀ (fu : Nat) (i : Nat) (v : Int64), 25 - i < fu → (i ≤ 25) → (v = pkZ K f i) → ∀ (H : Heap) (locs : List Loc) (ls : Array Slot), va_P D vwCl [(b, .inr (0, [.int (iI ((w : Nat) : Int)), .int (iI ((h : Nat) : Int)), .ref ak, .ref ah])), (ak, .inl (cI, 100, .inl (aI K))), (ah, .inl (cI, 100, .inl (aI B)))] H → va_D A [(b, .inr (0, [.int (iI ((w : Nat) : Int)), .int (iI ((h : Nat) : Int)), .ref ak, .ref ah])), (ak, .inl (cI, 100, .inl (aI K))), (ah, .inl (cI, 100, .inl (aI B)))] → va_S A s.heap H locs → lv_has ls 5 [(0, .ref b), (1, .int (iI ((f : Nat) : Int))), (2, .long v), (4, .int (iI ((i : Nat) : Int)))] → W p l e (rmk 1 0 0 21) s m ([.ref b, .int (iI ((f : Nat) : Int))] : List Value).toArray below meth c H locs 0 0 Q (F0 m 5 ls []) := by
    intro fu
    induction fu with
    | zero => intro i v hmu; exact absurd hmu (Nat.not_lt_zero _)
    | succ fu ih_lp5 =>
      intro i v hmu hi hv H locs ls hP hD hS hl
      refine lv_iload S.1 S.2.1 dX2_packed_5 (lv_at hl 3 rfl) ?_
      refine r_bipush S dX2_packed_7 (by decide) ?_
      refine r_icmp_ge S (tgt := 32) dX2_packed_9 (by decide) ⟨by omega, by omega⟩ ⟨by decide, by decide⟩ (fun c9 => ?_) (fun c9 => ?_)
      · refine lv_lload_n S.1 S.2.1 dX2_packed_32 rfl (lv_at hl 2 rfl) ?_
        subst hQ
        exact e_lret S hr hlk hS (Nat.le_of_ble_eq_true rfl) (Nat.le_of_ble_eq_true rfl) (u := ()) (by rw [hv, show i = 25 by omega]) (aft_of hK hP hD) dX2_packed_33
      · refine lv_lload_n S.1 S.2.1 dX2_packed_12 rfl (lv_at hl 2 rfl) ?_
        refine r_iconst S dX2_packed_13 ?_
        refine lv_lshl S.1 S.2.1 (v := (v <<< ((iI 2).toInt64 &&& 63))) dX2_packed_14 rfl ?_
        refine lv_aload_n S.1 S.2.1 dX2_packed_15 rfl (lv_at hl 0 rfl) ?_
        refine lv_iload_n S.1 S.2.1 dX2_packed_16 rfl (lv_at hl 1 rfl) ?_
        refine lv_iload S.1 S.2.1 dX2_packed_17 (lv_at hl 3 rfl) ?_
        refine r_iadd S dX2_packed_19 (z := ((f + i : Nat) : Int)) (by omega) ?_
        refine k_i (wr := []) (va_runV (As := [.int (iI ((f + i : Nat) : Int))]) (rest := [.long (v <<< ((iI 2).toInt64 &&& 63))]) S (mX0_kind l D cI cJ Z _ b ak ah w h K B ((f + i : Nat) : Int) (by first | assumption | omega | exact ⟨by omega, by omega⟩) (by first | assumption | omega | exact ⟨by omega, by omega⟩) (by first | assumption | omega | exact ⟨by omega, by omega⟩)) (cwV 1 S.2.2.2.2 gX2_packed_X0_kind rfl rfl rfl (by decide +kernel) ⟨Nat.le_of_ble_eq_true rfl, Nat.le_of_ble_eq_true rfl⟩) (preV_of hK hP hD hS hA hZ [0, 1, 2] (by decide) rfl 0 0 rfl rfl) rfl rfl hl.1 rfl (lv_room (Nat.le_of_ble_eq_true rfl)) dX2_packed_20 ⟨Nat.le_of_ble_eq_true rfl, Nat.le_of_ble_eq_true rfl⟩) hP hD hS hA [0, 1, 2] [] rfl rfl (by decide) (by decide) [0, 1, 2] (by decide) (fun u => [(b, .inr (0, [.int (iI ((w : Nat) : Int)), .int (iI ((h : Nat) : Int)), .ref ak, .ref ah])), (ak, .inl (cI, 100, .inl (aI K))), (ah, .inl (cI, 100, .inl (aI B)))]) (fun u => rfl) (fun r u H locs hpo hP hD hS => ?_)
        obtain rfl := hpo
        refine lv_i2l S.1 S.2.1 (v := (iI (kindZ K ((f + i : Nat) : Int))).toInt64) dX2_packed_23 rfl ?_
        refine lv_lor S.1 S.2.1 dX2_packed_24 ?_
        refine lv_lstore_n (lv' := [(2, .long ((v <<< ((iI 2).toInt64 &&& 63)) ||| ((iI (kindZ K ((f + i : Nat) : Int))).toInt64))), (0, .ref b), (1, .int (iI ((f : Nat) : Int))), (4, .int (iI ((i : Nat) : Int)))]) S.1 S.2.1 dX2_packed_25 rfl hl (by decide) rfl (fun ls hl => ?_)
        refine r_iinc S (z := ((i + 1 : Nat) : Int)) (k0 := 3) (lv' := [(4, .int (iI ((i + 1 : Nat) : Int))), (2, .long ((v <<< ((iI 2).toInt64 &&& 63)) ||| ((iI (kindZ K ((f + i : Nat) : Int))).toInt64))), (0, .ref b), (1, .int (iI ((f : Nat) : Int)))]) dX2_packed_26 hl rfl (by omega) (by decide) rfl (fun ls hl => ?_)
        refine r_goto S (tgt := 5) dX2_packed_29 (by decide) ?_
        exact ih_lp5 (i + 1) ((v <<< ((iI 2).toInt64 &&& 63)) ||| ((iI (kindZ K ((f + i : Nat) : Int))).toInt64)) (by omega) (by omega) (by rw [pkZ_s, hv, kindZ_in (by omega) (by omega), Int.toNat_natCast]) _ _ _ hP hD hS (lv_sub hl [2, 3, 1, 0] rfl)
  exact lp5 _ 0 0 (Nat.lt_succ_self _) (by omega) rfl _ _ _ hP hD hS (lv_sub hl [2, 3, 1, 0] rfl)
set_option maxHeartbeats 4000000 in
set_option maxRecDepth 100000 in
theorem mX2_keep (l : Launch) (D : va_G) (cI cJ : ClassId) (Z : Nat → Nat) (sz : Nat) (po : Nat) (pw : Nat) (PW : Nat → Int64) (b : Nat) (ak : Nat) (ah : Nat) (w : Nat) (h : Nat) (K : Nat → Int) (B : Nat → Int) (sn : Nat) (hww : 3 ≤ w ∧ w ≤ 10) (hhh : 3 ≤ h ∧ h ≤ 10) (hKK : okK K) (hs : sn ≤ 90) : Met l yX2_keep wsX2_keep (rmk 2 0 0 45) (va_Pc [.ref po, .int (iI ((sn : Nat) : Int)), .ref b] (preW D [(cI, .int), (cJ, .long)] Z [(po, .inr (2, [.ref pw])), (pw, .inl (cJ, 364, .inr (.inl PW))), (b, .inr (0, [.int (iI ((w : Nat) : Int)), .int (iI ((h : Nat) : Int)), .ref ak, .ref ah])), (ak, .inl (cI, 100, .inl (aI K))), (ah, .inl (cI, 100, .inl (aI B)))] sz)) (va_Qv (fun (u : (Nat → Int64)) => u = keepI K PW sn 4) (fun (u : (Nat → Int64)) t => aftW D [(cI, .int), (cJ, .long)] [(po, .inr (2, [.ref pw])), (pw, .inl (cJ, 364, .inr (.inl u))), (b, .inr (0, [.int (iI ((w : Nat) : Int)), .int (iI ((h : Nat) : Int)), .ref ak, .ref ah])), (ak, .inl (cI, 100, .inl (aI K))), (ah, .inl (cI, 100, .inl (aI B)))] (va_A [(po, .inr (2, [.ref pw])), (pw, .inl (cJ, 364, .inr (.inl PW))), (b, .inr (0, [.int (iI ((w : Nat) : Int)), .int (iI ((h : Nat) : Int)), .ref ak, .ref ah])), (ak, .inl (cI, 100, .inl (aI K))), (ah, .inl (cI, 100, .inl (aI B)))] sz) t) (va_A [(po, .inr (2, [.ref pw])), (pw, .inl (cJ, 364, .inr (.inl PW))), (b, .inr (0, [.int (iI ((w : Nat) : Int)), .int (iI ((h : Nat) : Int)), .ref ak, .ref ah])), (ak, .inl (cI, 100, .inl (aI K))), (ah, .inl (cI, 100, .inl (aI B)))] sz)) 0 0 (va_A [(po, .inr (2, [.ref pw])), (pw, .inl (cJ, 364, .inr (.inl PW))), (b, .inr (0, [.int (iI ((w : Nat) : Int)), .int (iI ((h : Nat) : Int)), .ref ak, .ref ah])), (ak, .inl (cI, 100, .inl (aI K))), (ah, .inl (cI, 100, .inl (aI B)))] sz) := by
  refine m_of (cc := cX2_keep) (maxL := 4) (ret := none) (Qc := fun A => va_Qv (fun (u : (Nat → Int64)) => u = keepI K PW sn 4) (fun (u : (Nat → Int64)) t => aftW D [(cI, .int), (cJ, .long)] [(po, .inr (2, [.ref pw])), (pw, .inl (cJ, 364, .inr (.inl u))), (b, .inr (0, [.int (iI ((w : Nat) : Int)), .int (iI ((h : Nat) : Int)), .ref ak, .ref ah])), (ak, .inl (cI, 100, .inl (aI K))), (ah, .inl (cI, 100, .inl (aI B)))] A t) A) RX2 [(0, .ref po), (1, .int (iI ((sn : Nat) : Int))), (2, .ref b)] (by decide) rfl rfl (Nat.le_of_ble_eq_true rfl) rfl (fun p e s m below meth c A ls Q S hr hlk hnm hAe hsz hP hK hD hA hZ hS hl hQ => ?_)
  have hi2 : ∀ w ∈ u_ws RX2 TX2 1, w ∈ wsX2_keep := by decide +kernel
  refine lv_iload_n S.1 S.2.1 dX2_keep_0 rfl (lv_at hl 1 rfl) ?_
  refine r_if_lt S (tgt := 10) dX2_keep_1 (by decide) ⟨by omega, by omega⟩ (fun c1 => ?_) (fun c1 => ?_)
  · exact absurd c1 (by omega)
  · refine lv_iload_n S.1 S.2.1 dX2_keep_4 rfl (lv_at hl 1 rfl) ?_
    refine r_bipush S dX2_keep_5 (by decide) ?_
    refine r_icmp_le S (tgt := 11) dX2_keep_7 (by decide) ⟨by omega, by omega⟩ ⟨by decide, by decide⟩ (fun c7 => ?_) (fun c7 => ?_)
    · refine r_iconst S dX2_keep_11 ?_
      refine lv_istore_n (lv' := [(3, .int (iI 0)), (0, .ref po), (1, .int (iI ((sn : Nat) : Int))), (2, .ref b)]) S.1 S.2.1 dX2_keep_12 rfl hl (by decide) rfl (fun ls hl => ?_)
      have lp13 : ∀ (fu : Nat) (i : Nat) (W1 : Nat → Int64), 4 - i < fu → (i ≤ 4) → (W1 = keepI K PW sn i) → ∀ (H : Heap) (locs : List Loc) (ls : Array Slot), va_P D vwCl [(po, .inr (2, [.ref pw])), (pw, .inl (cJ, 364, .inr (.inl W1))), (b, .inr (0, [.int (iI ((w : Nat) : Int)), .int (iI ((h : Nat) : Int)), .ref ak, .ref ah])), (ak, .inl (cI, 100, .inl (aI K))), (ah, .inl (cI, 100, .inl (aI B)))] H → va_D A [(po, .inr (2, [.ref pw])), (pw, .inl (cJ, 364, .inr (.inl W1))), (b, .inr (0, [.int (iI ((w : Nat) : Int)), .int (iI ((h : Nat) : Int)), .ref ak, .ref ah])), (ak, .inl (cI, 100, .inl (aI K))), (ah, .inl (cI, 100, .inl (aI B)))] → va_S A s.heap H locs → lv_has ls 4 [(0, .ref po), (1, .int (iI ((sn : Nat) : Int))), (2, .ref b), (3, .int (iI ((i : Nat) : Int)))] → W p l e (rmk 2 0 0 45) s m ([.ref po, .int (iI ((sn : Nat) : Int)), .ref b] : List Value).toArray below meth c H locs 0 0 Q (F0 m 13 ls []) := by
        intro fu
        induction fu with
        | zero => intro i W1 hmu; exact absurd hmu (Nat.not_lt_zero _)
        | succ fu ih_lp13 =>
          intro i W1 hmu hi h1 H locs ls hP hD hS hl
          refine lv_iload_n S.1 S.2.1 dX2_keep_13 rfl (lv_at hl 3 rfl) ?_
          refine r_iconst S dX2_keep_14 ?_
          refine r_icmp_ge S (tgt := 42) dX2_keep_15 (by decide) ⟨by omega, by omega⟩ ⟨by decide, by decide⟩ (fun c15 => ?_) (fun c15 => ?_)
          · subst hQ
            exact e_vret S hr hlk hS (Nat.le_of_ble_eq_true rfl) (Nat.le_of_ble_eq_true rfl) (u := W1) (by rw [h1, show i = 4 by omega]) (aft_of hK hP hD) dX2_keep_42
          · refine lv_aload_n S.1 S.2.1 dX2_keep_18 rfl (lv_at hl 0 rfl) ?_
            refine r_get S hi2 hK hP 0 rfl rfl 0 (by decide) (by decide +kernel) rfl rfl dX2_keep_19 ?_
            refine lv_iload_n S.1 S.2.1 dX2_keep_22 rfl (lv_at hl 1 rfl) ?_
            refine r_iconst S dX2_keep_23 ?_
            refine r_imul S dX2_keep_24 (z := ((sn * 4 : Nat) : Int)) (by omega) ?_
            refine lv_iload_n S.1 S.2.1 dX2_keep_25 rfl (lv_at hl 3 rfl) ?_
            refine r_iadd S dX2_keep_26 (z := ((sn * 4 + i : Nat) : Int)) (by omega) ?_
            refine lv_aload_n S.1 S.2.1 dX2_keep_27 rfl (lv_at hl 2 rfl) ?_
            refine lv_iload_n S.1 S.2.1 dX2_keep_28 rfl (lv_at hl 3 rfl) ?_
            refine r_bipush S dX2_keep_29 (by decide) ?_
            refine r_imul S dX2_keep_31 (z := ((i * 25 : Nat) : Int)) (by omega) ?_
            refine k_l (wr := [(po, .inr (2, [.ref pw])), (pw, .inl (cJ, 364, .inr (.inl W1)))]) (va_runS (As := [.ref b, .int (iI ((i * 25 : Nat) : Int))]) (rest := [.int (iI ((sn * 4 + i : Nat) : Int)), .ref pw]) S (mX2_packed l D cI cJ Z _ b ak ah w h K B (i * 25) (by first | assumption | omega | exact ⟨by omega, by omega⟩) (by first | assumption | omega | exact ⟨by omega, by omega⟩) (by first | assumption | omega | exact ⟨by omega, by omega⟩) (by first | assumption | omega | exact ⟨by omega, by omega⟩)) (va_cwS 2 S.2.2.2.2 gX2_keep_X2_packed rfl rfl rfl (by decide +kernel) ⟨Nat.le_of_ble_eq_true rfl, Nat.le_of_ble_eq_true rfl⟩) (preS_of hK hP hD hS hA hZ [2, 3, 4] (by decide) rfl) rfl rfl hl.1 rfl (lv_room (Nat.le_of_ble_eq_true rfl)) dX2_keep_32 ⟨Nat.le_of_ble_eq_true rfl, Nat.le_of_ble_eq_true rfl⟩) hP hD hS hA [2, 3, 4] [0, 1] rfl rfl (by decide) (by decide) [0, 1, 2, 3, 4] (by decide) (fun u => [(po, .inr (2, [.ref pw])), (pw, .inl (cJ, 364, .inr (.inl W1))), (b, .inr (0, [.int (iI ((w : Nat) : Int)), .int (iI ((h : Nat) : Int)), .ref ak, .ref ah])), (ak, .inl (cI, 100, .inl (aI K))), (ah, .inl (cI, 100, .inl (aI B)))]) (fun u => rfl) (fun r u H locs hpo hP hD hS => ?_)
            obtain rfl := hpo
            refine r_last S hK hP hD hS 1 1 rfl rfl (sn * 4 + i) (rfl) (by omega) (by decide) dX2_keep_35 [(po, .inr (2, [.ref pw])), (pw, .inl (cJ, 364, .inr (.inl (vp_updL W1 (sn * 4 + i) (pkZ K (i * 25) 25))))), (b, .inr (0, [.int (iI ((w : Nat) : Int)), .int (iI ((h : Nat) : Int)), .ref ak, .ref ah])), (ak, .inl (cI, 100, .inl (aI K))), (ah, .inl (cI, 100, .inl (aI B)))] rfl (fun H locs hP hD hS => ?_)
            refine r_iinc S (z := ((i + 1 : Nat) : Int)) (k0 := 3) (lv' := [(3, .int (iI ((i + 1 : Nat) : Int))), (0, .ref po), (1, .int (iI ((sn : Nat) : Int))), (2, .ref b)]) dX2_keep_36 hl rfl (by omega) (by decide) rfl (fun ls hl => ?_)
            refine r_goto S (tgt := 13) dX2_keep_39 (by decide) ?_
            exact ih_lp13 (i + 1) (vp_updL W1 (sn * 4 + i) (pkZ K (i * 25) 25)) (by omega) (by omega) (by rw [h1]; rfl) _ _ _ hP hD hS (lv_sub hl [1, 2, 3, 0] rfl)
      exact lp13 _ 0 PW (Nat.lt_succ_self _) (by omega) rfl _ _ _ hP hD hS (lv_sub hl [1, 2, 3, 0] rfl)
    · exact absurd c7 (by omega)
set_option maxHeartbeats 4000000 in
set_option maxRecDepth 100000 in
theorem mX2_isSame (l : Launch) (D : va_G) (cI cJ : ClassId) (Z : Nat → Nat) (sz : Nat) (po : Nat) (pw : Nat) (PW : Nat → Int64) (sn : Nat) (so : Nat) (hs : sn ≤ 90) (ho : so ≤ 90) : Met l yX2_isSame wsX2_isSame (rmk 0 0 0 0) (va_Pc [.ref po, .int (iI ((sn : Nat) : Int)), .int (iI ((so : Nat) : Int))] (preW D [(cI, .int), (cJ, .long)] Z [(po, .inr (2, [.ref pw])), (pw, .inl (cJ, 364, .inr (.inl PW)))] sz)) (va_Qi (fun (r : Int32) (u : Unit) => r = iI (sameB PW sn so)) (fun (u : Unit) t => aftW D [(cI, .int), (cJ, .long)] [(po, .inr (2, [.ref pw])), (pw, .inl (cJ, 364, .inr (.inl PW)))] (va_A [(po, .inr (2, [.ref pw])), (pw, .inl (cJ, 364, .inr (.inl PW)))] sz) t) (va_A [(po, .inr (2, [.ref pw])), (pw, .inl (cJ, 364, .inr (.inl PW)))] sz)) 0 0 (va_A [(po, .inr (2, [.ref pw])), (pw, .inl (cJ, 364, .inr (.inl PW)))] sz) := by
  refine m_of (cc := cX2_isSame) (maxL := 4) (ret := (some .boolean)) (Qc := fun A => va_Qi (fun (r : Int32) (u : Unit) => r = iI (sameB PW sn so)) (fun (u : Unit) t => aftW D [(cI, .int), (cJ, .long)] [(po, .inr (2, [.ref pw])), (pw, .inl (cJ, 364, .inr (.inl PW)))] A t) A) RX2 [(0, .ref po), (1, .int (iI ((sn : Nat) : Int))), (2, .int (iI ((so : Nat) : Int)))] (by decide) rfl rfl (Nat.le_of_ble_eq_true rfl) rfl (fun p e s m below meth c A ls Q S hr hlk hnm hAe hsz hP hK hD hA hZ hS hl hQ => ?_)
  have hi2 : ∀ w ∈ u_ws RX2 TX2 1, w ∈ wsX2_isSame := by decide +kernel
  refine r_iconst S dX2_isSame_0 ?_
  refine lv_istore_n (lv' := [(3, .int (iI 0)), (0, .ref po), (1, .int (iI ((sn : Nat) : Int))), (2, .int (iI ((so : Nat) : Int)))]) S.1 S.2.1 dX2_isSame_1 rfl hl (by decide) rfl (fun ls hl => ?_)
  have lp2 : ∀ (fu : Nat) (i : Nat), 4 - i < fu → (i ≤ 4) → (∀ j, j < i → PW (sn * 4 + j) = PW (so * 4 + j)) → ∀ (H : Heap) (locs : List Loc) (ls : Array Slot), va_P D vwCl [(po, .inr (2, [.ref pw])), (pw, .inl (cJ, 364, .inr (.inl PW)))] H → va_D A [(po, .inr (2, [.ref pw])), (pw, .inl (cJ, 364, .inr (.inl PW)))] → va_S A s.heap H locs → lv_has ls 4 [(0, .ref po), (1, .int (iI ((sn : Nat) : Int))), (2, .int (iI ((so : Nat) : Int))), (3, .int (iI ((i : Nat) : Int)))] → W p l e (rmk 0 0 0 0) s m ([.ref po, .int (iI ((sn : Nat) : Int)), .int (iI ((so : Nat) : Int))] : List Value).toArray below meth c H locs 0 0 Q (F0 m 2 ls []) := by
    intro fu
    induction fu with
    | zero => intro i hmu; exact absurd hmu (Nat.not_lt_zero _)
    | succ fu ih_lp2 =>
      intro i hmu hi hj H locs ls hP hD hS hl
      refine lv_iload_n S.1 S.2.1 dX2_isSame_2 rfl (lv_at hl 3 rfl) ?_
      refine r_iconst S dX2_isSame_3 ?_
      refine r_icmp_ge S (tgt := 39) dX2_isSame_4 (by decide) ⟨by omega, by omega⟩ ⟨by decide, by decide⟩ (fun c4 => ?_) (fun c4 => ?_)
      · refine r_iconst S dX2_isSame_39 ?_
        subst hQ
        exact e_zret S hr hlk hS (Nat.le_of_ble_eq_true rfl) (Nat.le_of_ble_eq_true rfl) (by omega) (u := ()) (by rw [sameB_t (fun j q => hj j (by omega))]) (aft_of hK hP hD) dX2_isSame_40
      · refine lv_aload_n S.1 S.2.1 dX2_isSame_7 rfl (lv_at hl 0 rfl) ?_
        refine r_get S hi2 hK hP 0 rfl rfl 0 (by decide) (by decide +kernel) rfl rfl dX2_isSame_8 ?_
        refine lv_iload_n S.1 S.2.1 dX2_isSame_11 rfl (lv_at hl 1 rfl) ?_
        refine r_iconst S dX2_isSame_12 ?_
        refine r_imul S dX2_isSame_13 (z := ((sn * 4 : Nat) : Int)) (by omega) ?_
        refine lv_iload_n S.1 S.2.1 dX2_isSame_14 rfl (lv_at hl 3 rfl) ?_
        refine r_iadd S dX2_isSame_15 (z := ((sn * 4 + i : Nat) : Int)) (by omega) ?_
        refine r_lald S hK hP 1 1 rfl rfl (sn * 4 + i) (rfl) (by omega) (by decide) dX2_isSame_16 ?_
        refine lv_aload_n S.1 S.2.1 dX2_isSame_17 rfl (lv_at hl 0 rfl) ?_
        refine r_get S hi2 hK hP 0 rfl rfl 0 (by decide) (by decide +kernel) rfl rfl dX2_isSame_18 ?_
        refine lv_iload_n S.1 S.2.1 dX2_isSame_21 rfl (lv_at hl 2 rfl) ?_
        refine r_iconst S dX2_isSame_22 ?_
        refine r_imul S dX2_isSame_23 (z := ((so * 4 : Nat) : Int)) (by omega) ?_
        refine lv_iload_n S.1 S.2.1 dX2_isSame_24 rfl (lv_at hl 3 rfl) ?_
        refine r_iadd S dX2_isSame_25 (z := ((so * 4 + i : Nat) : Int)) (by omega) ?_
        refine r_lald S hK hP 1 1 rfl rfl (so * 4 + i) (rfl) (by omega) (by decide) dX2_isSame_26 ?_
        refine r_lcmp_eq S (tgt := 33) dX2_isSame_27 dX2_isSame_28 (by decide) (fun c27 => ?_) (fun c27 => ?_)
        · have hj2 := hj
          refine r_iinc S (z := ((i + 1 : Nat) : Int)) (k0 := 3) (lv' := [(3, .int (iI ((i + 1 : Nat) : Int))), (0, .ref po), (1, .int (iI ((sn : Nat) : Int))), (2, .int (iI ((so : Nat) : Int)))]) dX2_isSame_33 hl rfl (by omega) (by decide) rfl (fun ls hl => ?_)
          refine r_goto S (tgt := 2) dX2_isSame_36 (by decide) ?_
          exact ih_lp2 (i + 1) (by omega) (by omega) (by intro j hj; by_cases q : j = i; { rw [q]; exact c27 }; { exact hj2 j (by omega) }) _ _ _ hP hD hS (lv_sub hl [1, 2, 3, 0] rfl)
        · refine r_iconst S dX2_isSame_31 ?_
          subst hQ
          exact e_zret S hr hlk hS (Nat.le_of_ble_eq_true rfl) (Nat.le_of_ble_eq_true rfl) (by omega) (u := ()) (by rw [sameB_f (fun q => c27 (q i (by omega)))]) (aft_of hK hP hD) dX2_isSame_32
  exact lp2 _ 0 (Nat.lt_succ_self _) (by omega) (fun j hj => absurd hj (Nat.not_lt_zero j)) _ _ _ hP hD hS (lv_sub hl [1, 2, 3, 0] rfl)
set_option maxHeartbeats 4000000 in
set_option maxRecDepth 100000 in
theorem mX2_firstLike (l : Launch) (D : va_G) (cI cJ : ClassId) (Z : Nat → Nat) (sz : Nat) (po : Nat) (pw : Nat) (PW : Nat → Int64) (sn : Nat) (hs : sn ≤ 90) : Met l yX2_firstLike wsX2_firstLike (rmk 1 0 0 23) (va_Pc [.ref po, .int (iI ((sn : Nat) : Int))] (preW D [(cI, .int), (cJ, .long)] Z [(po, .inr (2, [.ref pw])), (pw, .inl (cJ, 364, .inr (.inl PW)))] sz)) (va_Qi (fun (r : Int32) (u : Nat) => r = iI ((u : Nat) : Int) ∧ u ≤ sn ∧ (∀ j, j < u → ¬ sameW PW j sn) ∧ (u < sn → sameW PW u sn)) (fun (u : Nat) t => aftW D [(cI, .int), (cJ, .long)] [(po, .inr (2, [.ref pw])), (pw, .inl (cJ, 364, .inr (.inl PW)))] (va_A [(po, .inr (2, [.ref pw])), (pw, .inl (cJ, 364, .inr (.inl PW)))] sz) t) (va_A [(po, .inr (2, [.ref pw])), (pw, .inl (cJ, 364, .inr (.inl PW)))] sz)) 0 0 (va_A [(po, .inr (2, [.ref pw])), (pw, .inl (cJ, 364, .inr (.inl PW)))] sz) := by
  refine m_of (cc := cX2_firstLike) (maxL := 3) (ret := (some .int)) (Qc := fun A => va_Qi (fun (r : Int32) (u : Nat) => r = iI ((u : Nat) : Int) ∧ u ≤ sn ∧ (∀ j, j < u → ¬ sameW PW j sn) ∧ (u < sn → sameW PW u sn)) (fun (u : Nat) t => aftW D [(cI, .int), (cJ, .long)] [(po, .inr (2, [.ref pw])), (pw, .inl (cJ, 364, .inr (.inl PW)))] A t) A) RX2 [(0, .ref po), (1, .int (iI ((sn : Nat) : Int)))] (by decide) rfl rfl (Nat.le_of_ble_eq_true rfl) rfl (fun p e s m below meth c A ls Q S hr hlk hnm hAe hsz hP hK hD hA hZ hS hl hQ => ?_)
  refine lv_iload_n S.1 S.2.1 dX2_firstLike_0 rfl (lv_at hl 1 rfl) ?_
  refine r_if_lt S (tgt := 10) dX2_firstLike_1 (by decide) ⟨by omega, by omega⟩ (fun c1 => ?_) (fun c1 => ?_)
  · exact absurd c1 (by omega)
  · refine lv_iload_n S.1 S.2.1 dX2_firstLike_4 rfl (lv_at hl 1 rfl) ?_
    refine r_bipush S dX2_firstLike_5 (by decide) ?_
    refine r_icmp_le S (tgt := 12) dX2_firstLike_7 (by decide) ⟨by omega, by omega⟩ ⟨by decide, by decide⟩ (fun c7 => ?_) (fun c7 => ?_)
    · refine r_iconst S dX2_firstLike_12 ?_
      refine lv_istore_n (lv' := [(2, .int (iI 0)), (0, .ref po), (1, .int (iI ((sn : Nat) : Int)))]) S.1 S.2.1 dX2_firstLike_13 rfl hl (by decide) rfl (fun ls hl => ?_)
      have lp14 : ∀ (fu : Nat) (i : Nat), sn - i < fu → (i ≤ sn) → (∀ j, j < i → ¬ sameW PW j sn) → ∀ (H : Heap) (locs : List Loc) (ls : Array Slot), va_P D vwCl [(po, .inr (2, [.ref pw])), (pw, .inl (cJ, 364, .inr (.inl PW)))] H → va_D A [(po, .inr (2, [.ref pw])), (pw, .inl (cJ, 364, .inr (.inl PW)))] → va_S A s.heap H locs → lv_has ls 3 [(0, .ref po), (1, .int (iI ((sn : Nat) : Int))), (2, .int (iI ((i : Nat) : Int)))] → W p l e (rmk 1 0 0 23) s m ([.ref po, .int (iI ((sn : Nat) : Int))] : List Value).toArray below meth c H locs 0 0 Q (F0 m 14 ls []) := by
        intro fu
        induction fu with
        | zero => intro i hmu; exact absurd hmu (Nat.not_lt_zero _)
        | succ fu ih_lp14 =>
          intro i hmu hi hj H locs ls hP hD hS hl
          refine lv_iload_n S.1 S.2.1 dX2_firstLike_14 rfl (lv_at hl 2 rfl) ?_
          refine lv_iload_n S.1 S.2.1 dX2_firstLike_15 rfl (lv_at hl 1 rfl) ?_
          refine r_icmp_ge S (tgt := 36) dX2_firstLike_16 (by decide) ⟨by omega, by omega⟩ ⟨by omega, by omega⟩ (fun c16 => ?_) (fun c16 => ?_)
          · refine lv_iload_n S.1 S.2.1 dX2_firstLike_36 rfl (lv_at hl 1 rfl) ?_
            subst hQ
            exact e_iret S hr hlk hS (Nat.le_of_ble_eq_true rfl) (Nat.le_of_ble_eq_true rfl) (u := sn) (⟨rfl, by omega, fun j q => hj j (by omega), fun q => absurd q (Nat.lt_irrefl _)⟩) (aft_of hK hP hD) dX2_firstLike_37
          · refine lv_aload_n S.1 S.2.1 dX2_firstLike_19 rfl (lv_at hl 0 rfl) ?_
            refine lv_iload_n S.1 S.2.1 dX2_firstLike_20 rfl (lv_at hl 2 rfl) ?_
            refine lv_iload_n S.1 S.2.1 dX2_firstLike_21 rfl (lv_at hl 1 rfl) ?_
            refine k_i (wr := []) (va_runV (As := [.int (iI ((i : Nat) : Int)), .int (iI ((sn : Nat) : Int))]) (rest := []) S (mX2_isSame l D cI cJ Z _ po pw PW i sn (by first | assumption | omega | exact ⟨by omega, by omega⟩) (by first | assumption | omega | exact ⟨by omega, by omega⟩)) (cwV 2 S.2.2.2.2 gX2_firstLike_X2_isSame rfl rfl rfl (by decide +kernel) ⟨Nat.le_of_ble_eq_true rfl, Nat.le_of_ble_eq_true rfl⟩) (preV_of hK hP hD hS hA hZ [0, 1] (by decide) rfl 0 2 rfl rfl) rfl rfl hl.1 rfl (lv_room (Nat.le_of_ble_eq_true rfl)) dX2_firstLike_22 ⟨Nat.le_of_ble_eq_true rfl, Nat.le_of_ble_eq_true rfl⟩) hP hD hS hA [0, 1] [] rfl rfl (by decide) (by decide) [0, 1] (by decide) (fun u => [(po, .inr (2, [.ref pw])), (pw, .inl (cJ, 364, .inr (.inl PW)))]) (fun u => rfl) (fun r u H locs hpo hP hD hS => ?_)
            obtain rfl := hpo
            have hsr := sameB_rng PW i sn
            refine r_if_eq S (tgt := 30) dX2_firstLike_25 (by decide) ⟨by omega, by omega⟩ (fun c25 => ?_) (fun c25 => ?_)
            · have hns : ¬ sameW PW i sn := fun q => by rw [sameB_t q] at c25; omega
              refine r_iinc S (z := ((i + 1 : Nat) : Int)) (k0 := 2) (lv' := [(2, .int (iI ((i + 1 : Nat) : Int))), (0, .ref po), (1, .int (iI ((sn : Nat) : Int)))]) dX2_firstLike_30 hl rfl (by omega) (by decide) rfl (fun ls hl => ?_)
              refine r_goto S (tgt := 14) dX2_firstLike_33 (by decide) ?_
              exact ih_lp14 (i + 1) (by omega) (by omega) (by intro j hj3; by_cases q : j = i; { rw [q]; exact hns }; { exact hj j (by omega) }) _ _ _ hP hD hS (lv_sub hl [1, 2, 0] rfl)
            · have hss : sameW PW i sn := by refine Classical.byContradiction fun q => ?_; rw [sameB_f q] at c25; exact c25 rfl
              refine lv_iload_n S.1 S.2.1 dX2_firstLike_28 rfl (lv_at hl 2 rfl) ?_
              subst hQ
              exact e_iret S hr hlk hS (Nat.le_of_ble_eq_true rfl) (Nat.le_of_ble_eq_true rfl) (u := i) (⟨rfl, by omega, hj, fun _ => hss⟩) (aft_of hK hP hD) dX2_firstLike_29
      exact lp14 _ 0 (Nat.lt_succ_self _) (by omega) (fun j hj => absurd hj (Nat.not_lt_zero j)) _ _ _ hP hD hS (lv_sub hl [1, 2, 0] rfl)
    · exact absurd c7 (by omega)
