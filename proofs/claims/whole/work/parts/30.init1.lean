set_option maxHeartbeats 4000000 in
set_option maxRecDepth 100000 in
theorem mX0_init (l : Launch) (D : va_G) (cI cJ : ClassId) (Z : Nat → Nat) (sz : Nat) (bo : Nat) (w : Nat) (h : Nat) : Met l yX0_init wsX0_init (rmk 1 2 200 12) (va_Pc [.ref bo, .int (iI ((w : Nat) : Int)), .int (iI ((h : Nat) : Int))] (preW D [(cI, .int), (cJ, .long)] Z [(bo, .inr (0, [.int (iI 0), .int (iI 0), .null, .null]))] sz)) (va_Qv (fun (u : Nat × Nat) => True) (fun (u : Nat × Nat) t => aftW D [(cI, .int), (cJ, .long)] [(bo, .inr (0, [.int (iI ((w : Nat) : Int)), .int (iI ((h : Nat) : Int)), .ref u.1, .ref u.2])), (u.1, .inl (cI, 100, .inl (aI (fun _ => 0)))), (u.2, .inl (cI, 100, .inl (aI (fun _ => 0))))] (va_A [(bo, .inr (0, [.int (iI 0), .int (iI 0), .null, .null]))] sz) t) (va_A [(bo, .inr (0, [.int (iI 0), .int (iI 0), .null, .null]))] sz)) 2 200 (va_A [(bo, .inr (0, [.int (iI 0), .int (iI 0), .null, .null]))] sz) := by
  refine m_of (cc := cX0_init) (maxL := 3) (ret := none) (Qc := fun A => va_Qv (fun (u : Nat × Nat) => True) (fun (u : Nat × Nat) t => aftW D [(cI, .int), (cJ, .long)] [(bo, .inr (0, [.int (iI ((w : Nat) : Int)), .int (iI ((h : Nat) : Int)), .ref u.1, .ref u.2])), (u.1, .inl (cI, 100, .inl (aI (fun _ => 0)))), (u.2, .inl (cI, 100, .inl (aI (fun _ => 0))))] A t) A) RX0 [(0, .ref bo), (1, .int (iI ((w : Nat) : Int))), (2, .int (iI ((h : Nat) : Int)))] (by decide) rfl rfl (Nat.le_of_ble_eq_true rfl) rfl (fun p e s m below meth c A ls Q S hr hlk hnm hAe hsz hP hK hD hA hZ hS hl hQ => ?_)
  have hi0 : ∀ w ∈ u_ws RX0 TX0 4, w ∈ wsX0_init := by decide +kernel
  refine lv_aload_n S.1 S.2.1 dX0_init_0 rfl (lv_at hl 0 rfl) ?_
  refine W.objInit S.1 S.2.1 S.2.2.2.1 (S.2.2.2.2 (.methodLink RX0 3 objectInit) (by decide +kernel)) (S.2.2.2.2 (.instanceMethod objectInit) (by decide +kernel)) (S.2.2.2.2 (.code objectInit ⟨#[0xb1]⟩ 1 none) (by decide +kernel)) rfl (by rw [S.2.2.1]; exact hl.1) rfl dX0_init_1 (Nat.le_of_ble_eq_true rfl) (Nat.le_of_ble_eq_true rfl) ?_
  refine W.eq (g2 := F0 m 4 ls []) rfl ?_
  refine lv_aload_n S.1 S.2.1 dX0_init_4 rfl (lv_at hl 0 rfl) ?_
  refine lv_iload_n S.1 S.2.1 dX0_init_5 rfl (lv_at hl 1 rfl) ?_
  refine r_put S hi0 tyX0 tyX0_ok nmX0 hK hP hD hS 0 rfl rfl 0 (by decide) (by decide +kernel) rfl rfl (ty := .int) (v := .int (iI ((w : Nat) : Int))) (by decide +kernel) rfl rfl (by simp) dX0_init_6 [(bo, .inr (0, [.int (iI ((w : Nat) : Int)), .int (iI 0), .null, .null]))] rfl (fun H locs hP hD hS => ?_)
  refine lv_aload_n S.1 S.2.1 dX0_init_9 rfl (lv_at hl 0 rfl) ?_
  refine lv_iload_n S.1 S.2.1 dX0_init_10 rfl (lv_at hl 2 rfl) ?_
  refine r_put S hi0 tyX0 tyX0_ok nmX0 hK hP hD hS 0 rfl rfl 1 (by decide) (by decide +kernel) rfl rfl (ty := .int) (v := .int (iI ((h : Nat) : Int))) (by decide +kernel) rfl rfl (by simp) dX0_init_11 [(bo, .inr (0, [.int (iI ((w : Nat) : Int)), .int (iI ((h : Nat) : Int)), .null, .null]))] rfl (fun H locs hP hD hS => ?_)
  refine lv_aload_n S.1 S.2.1 dX0_init_14 rfl (lv_at hl 0 rfl) ?_
  refine r_bipush S dX0_init_15 (by decide) ?_
  refine r_newaI S 0 rfl (by decide +kernel) hK hP hD hS hA 100 rfl (by decide) (by decide) (by decide) dX0_init_17 (fun n1 H hP hD hS => ?_)
  have hP : va_P D vwCl [(bo, .inr (0, [.int (iI ((w : Nat) : Int)), .int (iI ((h : Nat) : Int)), .null, .null])), (n1, .inl (cI, 100, .inl (aI (fun _ => 0))))] _ := hP
  have hD : va_D A [(bo, .inr (0, [.int (iI ((w : Nat) : Int)), .int (iI ((h : Nat) : Int)), .null, .null])), (n1, .inl (cI, 100, .inl (aI (fun _ => 0))))] := hD
  refine W.widen (k := 1) (n := 100) (Nat.le_of_ble_eq_true rfl) (Nat.le_of_ble_eq_true rfl) ?_
  refine r_putF S hi0 tyX0 tyX0_ok nmX0 hK hP hD hS 0 rfl rfl 2 (by decide) (by decide +kernel) rfl rfl rfl hnm (ty := tyX0 2) (v := .ref n1) (by decide +kernel) rfl (by rfl) (by simp) dX0_init_19 [(bo, .inr (0, [.int (iI ((w : Nat) : Int)), .int (iI ((h : Nat) : Int)), .ref n1, .null])), (n1, .inl (cI, 100, .inl (aI (fun _ => 0))))] rfl (fun H locs hP hD hS => ?_)
  refine lv_aload_n S.1 S.2.1 dX0_init_22 rfl (lv_at hl 0 rfl) ?_
  refine r_bipush S dX0_init_23 (by decide) ?_
  refine r_newaI S 0 rfl (by decide +kernel) hK hP hD hS hA 100 rfl (by decide) (by decide) (by decide) dX0_init_25 (fun n2 H hP hD hS => ?_)
  have hP : va_P D vwCl [(bo, .inr (0, [.int (iI ((w : Nat) : Int)), .int (iI ((h : Nat) : Int)), .ref n1, .null])), (n1, .inl (cI, 100, .inl (aI (fun _ => 0)))), (n2, .inl (cI, 100, .inl (aI (fun _ => 0))))] _ := hP
  have hD : va_D A [(bo, .inr (0, [.int (iI ((w : Nat) : Int)), .int (iI ((h : Nat) : Int)), .ref n1, .null])), (n1, .inl (cI, 100, .inl (aI (fun _ => 0)))), (n2, .inl (cI, 100, .inl (aI (fun _ => 0))))] := hD
  refine W.widen (k := 2) (n := 200) (Nat.le_of_ble_eq_true rfl) (Nat.le_of_ble_eq_true rfl) ?_
  refine r_putF S hi0 tyX0 tyX0_ok nmX0 hK hP hD hS 0 rfl rfl 3 (by decide) (by decide +kernel) rfl rfl rfl hnm (ty := tyX0 3) (v := .ref n2) (by decide +kernel) rfl (by rfl) (by simp) dX0_init_27 [(bo, .inr (0, [.int (iI ((w : Nat) : Int)), .int (iI ((h : Nat) : Int)), .ref n1, .ref n2])), (n1, .inl (cI, 100, .inl (aI (fun _ => 0)))), (n2, .inl (cI, 100, .inl (aI (fun _ => 0))))] rfl (fun H locs hP hD hS => ?_)
  subst hQ
  exact e_vret S hr hlk hS (Nat.le_of_ble_eq_true rfl) (Nat.le_of_ble_eq_true rfl) (u := (n1, n2)) (trivial) (aft_of hK hP hD) dX0_init_30
set_option maxHeartbeats 4000000 in
set_option maxRecDepth 100000 in
theorem mX1_init (l : Launch) (D : va_G) (cI cJ : ClassId) (Z : Nat → Nat) (sz : Nat) (lo : Nat) : Met l yX1_init wsX1_init (rmk 1 4 20 12) (va_Pc [.ref lo] (preW D [(cI, .int), (cJ, .long)] Z [(lo, .inr (1, [.int (iI 0), .null, .null, .null, .null]))] sz)) (va_Qv (fun (u : Nat × Nat × Nat × Nat) => True) (fun (u : Nat × Nat × Nat × Nat) t => aftW D [(cI, .int), (cJ, .long)] [(lo, .inr (1, [.int (iI 0), .ref u.1, .ref u.2.1, .ref u.2.2.1, .ref u.2.2.2])), (u.1, .inl (cI, 5, .inl (aI (fun _ => 0)))), (u.2.1, .inl (cI, 5, .inl (aI (fun _ => 0)))), (u.2.2.1, .inl (cI, 5, .inl (aI (fun _ => 0)))), (u.2.2.2, .inl (cI, 5, .inl (aI (fun _ => 0))))] (va_A [(lo, .inr (1, [.int (iI 0), .null, .null, .null, .null]))] sz) t) (va_A [(lo, .inr (1, [.int (iI 0), .null, .null, .null, .null]))] sz)) 4 20 (va_A [(lo, .inr (1, [.int (iI 0), .null, .null, .null, .null]))] sz) := by
  refine m_of (cc := cX1_init) (maxL := 1) (ret := none) (Qc := fun A => va_Qv (fun (u : Nat × Nat × Nat × Nat) => True) (fun (u : Nat × Nat × Nat × Nat) t => aftW D [(cI, .int), (cJ, .long)] [(lo, .inr (1, [.int (iI 0), .ref u.1, .ref u.2.1, .ref u.2.2.1, .ref u.2.2.2])), (u.1, .inl (cI, 5, .inl (aI (fun _ => 0)))), (u.2.1, .inl (cI, 5, .inl (aI (fun _ => 0)))), (u.2.2.1, .inl (cI, 5, .inl (aI (fun _ => 0)))), (u.2.2.2, .inl (cI, 5, .inl (aI (fun _ => 0))))] A t) A) RX1 [(0, .ref lo)] (by decide) rfl rfl (Nat.le_of_ble_eq_true rfl) rfl (fun p e s m below meth c A ls Q S hr hlk hnm hAe hsz hP hK hD hA hZ hS hl hQ => ?_)
  have hi1 : ∀ w ∈ u_ws RX1 TX1 5, w ∈ wsX1_init := by decide +kernel
  refine lv_aload_n S.1 S.2.1 dX1_init_0 rfl (lv_at hl 0 rfl) ?_
  refine W.objInit S.1 S.2.1 S.2.2.2.1 (S.2.2.2.2 (.methodLink RX1 3 objectInit) (by decide +kernel)) (S.2.2.2.2 (.instanceMethod objectInit) (by decide +kernel)) (S.2.2.2.2 (.code objectInit ⟨#[0xb1]⟩ 1 none) (by decide +kernel)) rfl (by rw [S.2.2.1]; exact hl.1) rfl dX1_init_1 (Nat.le_of_ble_eq_true rfl) (Nat.le_of_ble_eq_true rfl) ?_
  refine W.eq (g2 := F0 m 4 ls []) rfl ?_
  refine lv_aload_n S.1 S.2.1 dX1_init_4 rfl (lv_at hl 0 rfl) ?_
  refine r_iconst S dX1_init_5 ?_
  refine r_put S hi1 tyX1 tyX1_ok nmX1 hK hP hD hS 0 rfl rfl 0 (by decide) (by decide +kernel) rfl rfl (ty := .int) (v := .int (iI 0)) (by decide +kernel) rfl rfl (by simp) dX1_init_6 [(lo, .inr (1, [.int (iI 0), .null, .null, .null, .null]))] rfl (fun H locs hP hD hS => ?_)
  refine lv_aload_n S.1 S.2.1 dX1_init_9 rfl (lv_at hl 0 rfl) ?_
  refine r_iconst S dX1_init_10 ?_
  refine r_newaI S 0 rfl (by decide +kernel) hK hP hD hS hA 5 rfl (by decide) (by decide) (by decide) dX1_init_11 (fun n1 H hP hD hS => ?_)
  have hP : va_P D vwCl [(lo, .inr (1, [.int (iI 0), .null, .null, .null, .null])), (n1, .inl (cI, 5, .inl (aI (fun _ => 0))))] _ := hP
  have hD : va_D A [(lo, .inr (1, [.int (iI 0), .null, .null, .null, .null])), (n1, .inl (cI, 5, .inl (aI (fun _ => 0))))] := hD
  refine W.widen (k := 1) (n := 5) (Nat.le_of_ble_eq_true rfl) (Nat.le_of_ble_eq_true rfl) ?_
  refine r_putF S hi1 tyX1 tyX1_ok nmX1 hK hP hD hS 0 rfl rfl 1 (by decide) (by decide +kernel) rfl rfl rfl hnm (ty := tyX1 1) (v := .ref n1) (by decide +kernel) rfl (by rfl) (by simp) dX1_init_13 [(lo, .inr (1, [.int (iI 0), .ref n1, .null, .null, .null])), (n1, .inl (cI, 5, .inl (aI (fun _ => 0))))] rfl (fun H locs hP hD hS => ?_)
  refine lv_aload_n S.1 S.2.1 dX1_init_16 rfl (lv_at hl 0 rfl) ?_
  refine r_iconst S dX1_init_17 ?_
  refine r_newaI S 0 rfl (by decide +kernel) hK hP hD hS hA 5 rfl (by decide) (by decide) (by decide) dX1_init_18 (fun n2 H hP hD hS => ?_)
  have hP : va_P D vwCl [(lo, .inr (1, [.int (iI 0), .ref n1, .null, .null, .null])), (n1, .inl (cI, 5, .inl (aI (fun _ => 0)))), (n2, .inl (cI, 5, .inl (aI (fun _ => 0))))] _ := hP
  have hD : va_D A [(lo, .inr (1, [.int (iI 0), .ref n1, .null, .null, .null])), (n1, .inl (cI, 5, .inl (aI (fun _ => 0)))), (n2, .inl (cI, 5, .inl (aI (fun _ => 0))))] := hD
  refine W.widen (k := 2) (n := 10) (Nat.le_of_ble_eq_true rfl) (Nat.le_of_ble_eq_true rfl) ?_
  refine r_putF S hi1 tyX1 tyX1_ok nmX1 hK hP hD hS 0 rfl rfl 2 (by decide) (by decide +kernel) rfl rfl rfl hnm (ty := tyX1 2) (v := .ref n2) (by decide +kernel) rfl (by rfl) (by simp) dX1_init_20 [(lo, .inr (1, [.int (iI 0), .ref n1, .ref n2, .null, .null])), (n1, .inl (cI, 5, .inl (aI (fun _ => 0)))), (n2, .inl (cI, 5, .inl (aI (fun _ => 0))))] rfl (fun H locs hP hD hS => ?_)
  refine lv_aload_n S.1 S.2.1 dX1_init_23 rfl (lv_at hl 0 rfl) ?_
  refine r_iconst S dX1_init_24 ?_
  refine r_newaI S 0 rfl (by decide +kernel) hK hP hD hS hA 5 rfl (by decide) (by decide) (by decide) dX1_init_25 (fun n3 H hP hD hS => ?_)
  have hP : va_P D vwCl [(lo, .inr (1, [.int (iI 0), .ref n1, .ref n2, .null, .null])), (n1, .inl (cI, 5, .inl (aI (fun _ => 0)))), (n2, .inl (cI, 5, .inl (aI (fun _ => 0)))), (n3, .inl (cI, 5, .inl (aI (fun _ => 0))))] _ := hP
  have hD : va_D A [(lo, .inr (1, [.int (iI 0), .ref n1, .ref n2, .null, .null])), (n1, .inl (cI, 5, .inl (aI (fun _ => 0)))), (n2, .inl (cI, 5, .inl (aI (fun _ => 0)))), (n3, .inl (cI, 5, .inl (aI (fun _ => 0))))] := hD
  refine W.widen (k := 3) (n := 15) (Nat.le_of_ble_eq_true rfl) (Nat.le_of_ble_eq_true rfl) ?_
  refine r_putF S hi1 tyX1 tyX1_ok nmX1 hK hP hD hS 0 rfl rfl 3 (by decide) (by decide +kernel) rfl rfl rfl hnm (ty := tyX1 3) (v := .ref n3) (by decide +kernel) rfl (by rfl) (by simp) dX1_init_27 [(lo, .inr (1, [.int (iI 0), .ref n1, .ref n2, .ref n3, .null])), (n1, .inl (cI, 5, .inl (aI (fun _ => 0)))), (n2, .inl (cI, 5, .inl (aI (fun _ => 0)))), (n3, .inl (cI, 5, .inl (aI (fun _ => 0))))] rfl (fun H locs hP hD hS => ?_)
  refine lv_aload_n S.1 S.2.1 dX1_init_30 rfl (lv_at hl 0 rfl) ?_
  refine r_iconst S dX1_init_31 ?_
  refine r_newaI S 0 rfl (by decide +kernel) hK hP hD hS hA 5 rfl (by decide) (by decide) (by decide) dX1_init_32 (fun n4 H hP hD hS => ?_)
  have hP : va_P D vwCl [(lo, .inr (1, [.int (iI 0), .ref n1, .ref n2, .ref n3, .null])), (n1, .inl (cI, 5, .inl (aI (fun _ => 0)))), (n2, .inl (cI, 5, .inl (aI (fun _ => 0)))), (n3, .inl (cI, 5, .inl (aI (fun _ => 0)))), (n4, .inl (cI, 5, .inl (aI (fun _ => 0))))] _ := hP
  have hD : va_D A [(lo, .inr (1, [.int (iI 0), .ref n1, .ref n2, .ref n3, .null])), (n1, .inl (cI, 5, .inl (aI (fun _ => 0)))), (n2, .inl (cI, 5, .inl (aI (fun _ => 0)))), (n3, .inl (cI, 5, .inl (aI (fun _ => 0)))), (n4, .inl (cI, 5, .inl (aI (fun _ => 0))))] := hD
  refine W.widen (k := 4) (n := 20) (Nat.le_of_ble_eq_true rfl) (Nat.le_of_ble_eq_true rfl) ?_
  refine r_putF S hi1 tyX1 tyX1_ok nmX1 hK hP hD hS 0 rfl rfl 4 (by decide) (by decide +kernel) rfl rfl rfl hnm (ty := tyX1 4) (v := .ref n4) (by decide +kernel) rfl (by rfl) (by simp) dX1_init_34 [(lo, .inr (1, [.int (iI 0), .ref n1, .ref n2, .ref n3, .ref n4])), (n1, .inl (cI, 5, .inl (aI (fun _ => 0)))), (n2, .inl (cI, 5, .inl (aI (fun _ => 0)))), (n3, .inl (cI, 5, .inl (aI (fun _ => 0)))), (n4, .inl (cI, 5, .inl (aI (fun _ => 0))))] rfl (fun H locs hP hD hS => ?_)
  subst hQ
  exact e_vret S hr hlk hS (Nat.le_of_ble_eq_true rfl) (Nat.le_of_ble_eq_true rfl) (u := (n1, n2, n3, n4)) (trivial) (aft_of hK hP hD) dX1_init_37
set_option maxHeartbeats 4000000 in
set_option maxRecDepth 100000 in
theorem mX2_init (l : Launch) (D : va_G) (cI cJ : ClassId) (Z : Nat → Nat) (sz : Nat) (po : Nat) : Met l yX2_init wsX2_init (rmk 1 1 364 12) (va_Pc [.ref po] (preW D [(cI, .int), (cJ, .long)] Z [(po, .inr (2, [.null]))] sz)) (va_Qv (fun (u : Nat) => True) (fun (u : Nat) t => aftW D [(cI, .int), (cJ, .long)] [(po, .inr (2, [.ref u])), (u, .inl (cJ, 364, .inr (.inl (fun _ => (0 : Int64)))))] (va_A [(po, .inr (2, [.null]))] sz) t) (va_A [(po, .inr (2, [.null]))] sz)) 1 364 (va_A [(po, .inr (2, [.null]))] sz) := by
  refine m_of (cc := cX2_init) (maxL := 1) (ret := none) (Qc := fun A => va_Qv (fun (u : Nat) => True) (fun (u : Nat) t => aftW D [(cI, .int), (cJ, .long)] [(po, .inr (2, [.ref u])), (u, .inl (cJ, 364, .inr (.inl (fun _ => (0 : Int64)))))] A t) A) RX2 [(0, .ref po)] (by decide) rfl rfl (Nat.le_of_ble_eq_true rfl) rfl (fun p e s m below meth c A ls Q S hr hlk hnm hAe hsz hP hK hD hA hZ hS hl hQ => ?_)
  have hi2 : ∀ w ∈ u_ws RX2 TX2 1, w ∈ wsX2_init := by decide +kernel
  refine lv_aload_n S.1 S.2.1 dX2_init_0 rfl (lv_at hl 0 rfl) ?_
  refine W.objInit S.1 S.2.1 S.2.2.2.1 (S.2.2.2.2 (.methodLink RX2 5 objectInit) (by decide +kernel)) (S.2.2.2.2 (.instanceMethod objectInit) (by decide +kernel)) (S.2.2.2.2 (.code objectInit ⟨#[0xb1]⟩ 1 none) (by decide +kernel)) rfl (by rw [S.2.2.1]; exact hl.1) rfl dX2_init_1 (Nat.le_of_ble_eq_true rfl) (Nat.le_of_ble_eq_true rfl) ?_
  refine W.eq (g2 := F0 m 4 ls []) rfl ?_
  refine lv_aload_n S.1 S.2.1 dX2_init_4 rfl (lv_at hl 0 rfl) ?_
  refine r_sipush S dX2_init_5 (by decide) ?_
  refine r_newaJ S 1 rfl (by decide +kernel) hK hP hD hS hA 364 rfl (by decide) (by decide) (by decide) dX2_init_8 (fun n1 H hP hD hS => ?_)
  have hP : va_P D vwCl [(po, .inr (2, [.null])), (n1, .inl (cJ, 364, .inr (.inl (fun _ => (0 : Int64)))))] _ := hP
  have hD : va_D A [(po, .inr (2, [.null])), (n1, .inl (cJ, 364, .inr (.inl (fun _ => (0 : Int64)))))] := hD
  refine W.widen (k := 1) (n := 364) (Nat.le_of_ble_eq_true rfl) (Nat.le_of_ble_eq_true rfl) ?_
  refine r_putF S hi2 tyX2 tyX2_ok nmX2 hK hP hD hS 0 rfl rfl 0 (by decide) (by decide +kernel) rfl rfl rfl hnm (ty := tyX2 0) (v := .ref n1) (by decide +kernel) rfl (by rfl) (by simp) dX2_init_10 [(po, .inr (2, [.ref n1])), (n1, .inl (cJ, 364, .inr (.inl (fun _ => (0 : Int64)))))] rfl (fun H locs hP hD hS => ?_)
  subst hQ
  exact e_vret S hr hlk hS (Nat.le_of_ble_eq_true rfl) (Nat.le_of_ble_eq_true rfl) (u := n1) (trivial) (aft_of hK hP hD) dX2_init_13
set_option maxHeartbeats 4000000 in
set_option maxRecDepth 100000 in
theorem mX3_init (l : Launch) (D : va_G) (cI cJ : ClassId) (Z : Nat → Nat) (sz : Nat) (wo : Nat) : Met l yX3_init wsX3_init (rmk 1 3 300 12) (va_Pc [.ref wo] (preW D [(cI, .int), (cJ, .long)] Z [(wo, .inr (3, [.null, .null, .null]))] sz)) (va_Qv (fun (u : Nat × Nat × Nat) => True) (fun (u : Nat × Nat × Nat) t => aftW D [(cI, .int), (cJ, .long)] [(wo, .inr (3, [.ref u.1, .ref u.2.1, .ref u.2.2])), (u.1, .inl (cI, 100, .inl (aI (fun _ => 0)))), (u.2.1, .inl (cI, 100, .inl (aI (fun _ => 0)))), (u.2.2, .inl (cI, 100, .inl (aI (fun _ => 0))))] (va_A [(wo, .inr (3, [.null, .null, .null]))] sz) t) (va_A [(wo, .inr (3, [.null, .null, .null]))] sz)) 3 300 (va_A [(wo, .inr (3, [.null, .null, .null]))] sz) := by
  refine m_of (cc := cX3_init) (maxL := 1) (ret := none) (Qc := fun A => va_Qv (fun (u : Nat × Nat × Nat) => True) (fun (u : Nat × Nat × Nat) t => aftW D [(cI, .int), (cJ, .long)] [(wo, .inr (3, [.ref u.1, .ref u.2.1, .ref u.2.2])), (u.1, .inl (cI, 100, .inl (aI (fun _ => 0)))), (u.2.1, .inl (cI, 100, .inl (aI (fun _ => 0)))), (u.2.2, .inl (cI, 100, .inl (aI (fun _ => 0))))] A t) A) RX3 [(0, .ref wo)] (by decide) rfl rfl (Nat.le_of_ble_eq_true rfl) rfl (fun p e s m below meth c A ls Q S hr hlk hnm hAe hsz hP hK hD hA hZ hS hl hQ => ?_)
  have hi3 : ∀ w ∈ u_ws RX3 TX3 3, w ∈ wsX3_init := by decide +kernel
  refine lv_aload_n S.1 S.2.1 dX3_init_0 rfl (lv_at hl 0 rfl) ?_
  refine W.objInit S.1 S.2.1 S.2.2.2.1 (S.2.2.2.2 (.methodLink RX3 3 objectInit) (by decide +kernel)) (S.2.2.2.2 (.instanceMethod objectInit) (by decide +kernel)) (S.2.2.2.2 (.code objectInit ⟨#[0xb1]⟩ 1 none) (by decide +kernel)) rfl (by rw [S.2.2.1]; exact hl.1) rfl dX3_init_1 (Nat.le_of_ble_eq_true rfl) (Nat.le_of_ble_eq_true rfl) ?_
  refine W.eq (g2 := F0 m 4 ls []) rfl ?_
  refine lv_aload_n S.1 S.2.1 dX3_init_4 rfl (lv_at hl 0 rfl) ?_
  refine r_bipush S dX3_init_5 (by decide) ?_
  refine r_newaI S 0 rfl (by decide +kernel) hK hP hD hS hA 100 rfl (by decide) (by decide) (by decide) dX3_init_7 (fun n1 H hP hD hS => ?_)
  have hP : va_P D vwCl [(wo, .inr (3, [.null, .null, .null])), (n1, .inl (cI, 100, .inl (aI (fun _ => 0))))] _ := hP
  have hD : va_D A [(wo, .inr (3, [.null, .null, .null])), (n1, .inl (cI, 100, .inl (aI (fun _ => 0))))] := hD
  refine W.widen (k := 1) (n := 100) (Nat.le_of_ble_eq_true rfl) (Nat.le_of_ble_eq_true rfl) ?_
  refine r_putF S hi3 tyX3 tyX3_ok nmX3 hK hP hD hS 0 rfl rfl 0 (by decide) (by decide +kernel) rfl rfl rfl hnm (ty := tyX3 0) (v := .ref n1) (by decide +kernel) rfl (by rfl) (by simp) dX3_init_9 [(wo, .inr (3, [.ref n1, .null, .null])), (n1, .inl (cI, 100, .inl (aI (fun _ => 0))))] rfl (fun H locs hP hD hS => ?_)
  refine lv_aload_n S.1 S.2.1 dX3_init_12 rfl (lv_at hl 0 rfl) ?_
  refine r_bipush S dX3_init_13 (by decide) ?_
  refine r_newaI S 0 rfl (by decide +kernel) hK hP hD hS hA 100 rfl (by decide) (by decide) (by decide) dX3_init_15 (fun n2 H hP hD hS => ?_)
  have hP : va_P D vwCl [(wo, .inr (3, [.ref n1, .null, .null])), (n1, .inl (cI, 100, .inl (aI (fun _ => 0)))), (n2, .inl (cI, 100, .inl (aI (fun _ => 0))))] _ := hP
  have hD : va_D A [(wo, .inr (3, [.ref n1, .null, .null])), (n1, .inl (cI, 100, .inl (aI (fun _ => 0)))), (n2, .inl (cI, 100, .inl (aI (fun _ => 0))))] := hD
  refine W.widen (k := 2) (n := 200) (Nat.le_of_ble_eq_true rfl) (Nat.le_of_ble_eq_true rfl) ?_
  refine r_putF S hi3 tyX3 tyX3_ok nmX3 hK hP hD hS 0 rfl rfl 1 (by decide) (by decide +kernel) rfl rfl rfl hnm (ty := tyX3 1) (v := .ref n2) (by decide +kernel) rfl (by rfl) (by simp) dX3_init_17 [(wo, .inr (3, [.ref n1, .ref n2, .null])), (n1, .inl (cI, 100, .inl (aI (fun _ => 0)))), (n2, .inl (cI, 100, .inl (aI (fun _ => 0))))] rfl (fun H locs hP hD hS => ?_)
  refine lv_aload_n S.1 S.2.1 dX3_init_20 rfl (lv_at hl 0 rfl) ?_
  refine r_bipush S dX3_init_21 (by decide) ?_
  refine r_newaI S 0 rfl (by decide +kernel) hK hP hD hS hA 100 rfl (by decide) (by decide) (by decide) dX3_init_23 (fun n3 H hP hD hS => ?_)
  have hP : va_P D vwCl [(wo, .inr (3, [.ref n1, .ref n2, .null])), (n1, .inl (cI, 100, .inl (aI (fun _ => 0)))), (n2, .inl (cI, 100, .inl (aI (fun _ => 0)))), (n3, .inl (cI, 100, .inl (aI (fun _ => 0))))] _ := hP
  have hD : va_D A [(wo, .inr (3, [.ref n1, .ref n2, .null])), (n1, .inl (cI, 100, .inl (aI (fun _ => 0)))), (n2, .inl (cI, 100, .inl (aI (fun _ => 0)))), (n3, .inl (cI, 100, .inl (aI (fun _ => 0))))] := hD
  refine W.widen (k := 3) (n := 300) (Nat.le_of_ble_eq_true rfl) (Nat.le_of_ble_eq_true rfl) ?_
  refine r_putF S hi3 tyX3 tyX3_ok nmX3 hK hP hD hS 0 rfl rfl 2 (by decide) (by decide +kernel) rfl rfl rfl hnm (ty := tyX3 2) (v := .ref n3) (by decide +kernel) rfl (by rfl) (by simp) dX3_init_25 [(wo, .inr (3, [.ref n1, .ref n2, .ref n3])), (n1, .inl (cI, 100, .inl (aI (fun _ => 0)))), (n2, .inl (cI, 100, .inl (aI (fun _ => 0)))), (n3, .inl (cI, 100, .inl (aI (fun _ => 0))))] rfl (fun H locs hP hD hS => ?_)
  subst hQ
  exact e_vret S hr hlk hS (Nat.le_of_ble_eq_true rfl) (Nat.le_of_ble_eq_true rfl) (u := (n1, n2, n3)) (trivial) (aft_of hK hP hD) dX3_init_28
