/-- what the start gives, row by row -/
def nwL : List Cond := flatC (Jvm.Cond.and given_1 narrow_1)
set_option maxRecDepth 100000 in
theorem nwR_a : Cond.arrayOf (Term.static "SparkBoards" "RIGHT" "[I") .int ∈ nwL := by decide +kernel
set_option maxRecDepth 100000 in
theorem nwR_l : Cond.eq (Term.length (Term.static "SparkBoards" "RIGHT" "[I")) (.int (Int32.ofNat 8)) ∈ nwL := by decide +kernel
set_option maxRecDepth 100000 in
theorem nwR_e : ∀ j, j < 8 → Cond.eq (Term.elem (Term.static "SparkBoards" "RIGHT" "[I") (.int (Int32.ofNat j))) (.int (iI (dX j))) ∈ nwL := by decide +kernel
set_option maxRecDepth 100000 in
theorem nwD_a : Cond.arrayOf (Term.static "SparkBoards" "DOWN" "[I") .int ∈ nwL := by decide +kernel
set_option maxRecDepth 100000 in
theorem nwD_l : Cond.eq (Term.length (Term.static "SparkBoards" "DOWN" "[I")) (.int (Int32.ofNat 8)) ∈ nwL := by decide +kernel
set_option maxRecDepth 100000 in
theorem nwD_e : ∀ j, j < 8 → Cond.eq (Term.elem (Term.static "SparkBoards" "DOWN" "[I") (.int (Int32.ofNat j))) (.int (iI (dY j))) ∈ nwL := by decide +kernel
set_option maxRecDepth 100000 in
theorem nwS_a : Cond.arrayOf (Term.static "SparkBoards" "STAMPED" "[I") .int ∈ nwL := by decide +kernel
set_option maxRecDepth 100000 in
theorem nwS_l : Cond.eq (Term.length (Term.static "SparkBoards" "STAMPED" "[I")) (.int (Int32.ofNat 36)) ∈ nwL := by decide +kernel
set_option maxRecDepth 100000 in
theorem nwS_e : ∀ j, j < 36 → Cond.eq (Term.elem (Term.static "SparkBoards" "STAMPED" "[I") (.int (Int32.ofNat j))) (.int (iI (stampedF j))) ∈ nwL := by decide +kernel
set_option maxRecDepth 100000 in
theorem nwT_a : Cond.arrayOf (Term.static "SparkBoardsModel" "STEP" "[I") .int ∈ nwL := by decide +kernel
set_option maxRecDepth 100000 in
theorem nwT_l : Cond.eq (Term.length (Term.static "SparkBoardsModel" "STEP" "[I")) (.int (Int32.ofNat 8)) ∈ nwL := by decide +kernel
set_option maxRecDepth 100000 in
theorem nwT_e : ∀ j, j < 8 → Cond.eq (Term.elem (Term.static "SparkBoardsModel" "STEP" "[I") (.int (Int32.ofNat j))) (.int (iI (stepF j))) ∈ nwL := by decide +kernel
set_option maxRecDepth 100000 in
theorem nwM_a : Cond.arrayOf (Term.static "SparkBoardsModel" "STAMPS" "[[I") (.array .int) ∈ nwL := by decide +kernel
set_option maxRecDepth 100000 in
theorem nwM_l : Cond.eq (Term.length (Term.static "SparkBoardsModel" "STAMPS" "[[I")) (.int (Int32.ofNat 4)) ∈ nwL := by decide +kernel
set_option maxRecDepth 100000 in
theorem nwM_r : ∀ j, j < 4 → Cond.arrayOf (Term.elem (Term.static "SparkBoardsModel" "STAMPS" "[[I") (.int (Int32.ofNat j))) .int ∈ nwL ∧ Cond.eq (Term.length (Term.elem (Term.static "SparkBoardsModel" "STAMPS" "[[I") (.int (Int32.ofNat j)))) (.int (Int32.ofNat (rowLen j))) ∈ nwL ∧ ∀ k, k < rowLen j → Cond.eq (Term.elem (Term.elem (Term.static "SparkBoardsModel" "STAMPS" "[[I") (.int (Int32.ofNat j))) (.int (Int32.ofNat k))) (.int (iI (stampsF j k))) ∈ nwL := by decide +kernel
set_option maxRecDepth 100000 in
theorem nwU : Cond.isRef (Term.static Bundle.tN "UNASSIGNED_STACK" Bundle.steD) ∈ nwL := by decide +kernel
set_option maxRecDepth 100000 in
theorem nwN : Cond.isRef (Term.static Bundle.tN "SUPPRESSED_SENTINEL" Bundle.listD) ∈ nwL := by decide +kernel
set_option maxRecDepth 100000 in
theorem nwX : ∀ q ∈ strTab, Cond.exactly (Term.string RX4 q.1) "java/lang/String" ∈ nwL := by decide +kernel
set_option maxRecDepth 100000 in
theorem nwC : ∀ q ∈ ncTab, Cond.not (Cond.castable q.1 q.2) ∈ nwL := by decide +kernel
def stIni : List Cond := [.laysStatic "SparkBoards" "RIGHT" "[I", .laysStatic "SparkBoards" "DOWN" "[I", .laysStatic "SparkBoards" "STAMPED" "[I", .laysStatic "SparkBoardsModel" "STEP" "[I", .laysStatic "SparkBoardsModel" "STAMPS" "[[I", .laysStatic Bundle.tN "UNASSIGNED_STACK" Bundle.steD, .laysStatic Bundle.tN "SUPPRESSED_SENTINEL" Bundle.listD, .initialized "SparkBoards", .initialized "SparkBoardsModel", .initialized Bundle.tN, .arrayClass .int, .arrayClass .long, .instantiable RX0 4, .instantiable RX1 5, .instantiable RX2 1, .instantiable RX3 3, .instantiable RX4 7, .instantiable RX5 14]
set_option maxRecDepth 100000 in
theorem tb_ini : ∀ w ∈ stIni, w ∈ lw_tbl := by decide +kernel
set_option maxRecDepth 100000 in
theorem tb_ex : ∀ w ∈ exTab, w ∈ lw_tbl := by decide +kernel
set_option maxRecDepth 100000 in
theorem tb_nest : ∀ q ∈ exNest, nestW q ∈ lw_tbl := by decide +kernel
set_option maxRecDepth 100000 in
theorem tb_cast : ∀ q ∈ castTab, Cond.castable q q ∈ lw_tbl := by decide +kernel
set_option maxRecDepth 100000 in
theorem tb_decl : ∀ q ∈ declTab, Cond.declares q ∈ lw_tbl := by decide +kernel
set_option maxRecDepth 100000 in
theorem tb_str : ∀ q ∈ strTab, Cond.stringRef RX4 q.1 q.2 ∈ lw_tbl := by decide +kernel
set_option maxHeartbeats 4000000 in
set_option maxRecDepth 100000 in
/-- what is given of statics and texts at the entry -/
theorem stat_0 {s : State} {a : Nat} (hts : ∀ w ∈ lw_tbl, w.before #[Value.ref a] s = true) (hgv : (Jvm.Cond.and given_1 narrow_1).before #[Value.ref a] s = true) : ∃ Z : Nat → Nat, Stat Z (fun q => s.heap.size ≤ q) s s.heap := by
  have hs : ∀ w ∈ nwL, w.before #[Value.ref a] s = true := flat_of_before _ hgv
  have hA : ∀ a : Nat, a < s.heap.size → ¬ s.heap.size ≤ a := fun a h => Nat.not_le.mpr h
  have hi : ∀ w ∈ stIni, w.before #[Value.ref a] s = true := fun w hw => hts w (tb_ini w hw)
  obtain ⟨zR, eR, tR⟩ := va_Tof (tm := (Term.static "SparkBoards" "RIGHT" "[I")) (ty := .int) (N := 8) (f := fun j => .int (iI (dX j))) (A := fun q => s.heap.size ≤ q) (by decide) (hs _ nwR_a) (va_eqt (hs _ nwR_l)) (fun j hj => va_eqt (hs _ (nwR_e j hj))) hA
  obtain ⟨zD, eD, tD⟩ := va_Tof (tm := (Term.static "SparkBoards" "DOWN" "[I")) (ty := .int) (N := 8) (f := fun j => .int (iI (dY j))) (A := fun q => s.heap.size ≤ q) (by decide) (hs _ nwD_a) (va_eqt (hs _ nwD_l)) (fun j hj => va_eqt (hs _ (nwD_e j hj))) hA
  obtain ⟨zS, eS, tS⟩ := va_Tof (tm := (Term.static "SparkBoards" "STAMPED" "[I")) (ty := .int) (N := 36) (f := fun j => .int (iI (stampedF j))) (A := fun q => s.heap.size ≤ q) (by decide) (hs _ nwS_a) (va_eqt (hs _ nwS_l)) (fun j hj => va_eqt (hs _ (nwS_e j hj))) hA
  obtain ⟨zT, eT, tT⟩ := va_Tof (tm := (Term.static "SparkBoardsModel" "STEP" "[I")) (ty := .int) (N := 8) (f := fun j => .int (iI (stepF j))) (A := fun q => s.heap.size ≤ q) (by decide) (hs _ nwT_a) (va_eqt (hs _ nwT_l)) (fun j hj => va_eqt (hs _ (nwT_e j hj))) hA
  have hrow : ∀ j : Nat, ∃ t : Nat, j < 4 → (Term.elem (Term.static "SparkBoardsModel" "STAMPS" "[[I") (.int (Int32.ofNat j))).eval #[Value.ref a] s none [] s = some (.ref t) ∧ va_T .int t (rowLen j) (fun k => .int (iI (stampsF j k))) (fun q => s.heap.size ≤ q) s s.heap := by
    intro j
    by_cases hj : j < 4
    · obtain ⟨h1, h2, h3⟩ := nwM_r j hj
      have hr := rowLen_rng j
      obtain ⟨t, h4, h5⟩ := va_Tof (tm := Term.elem (Term.static "SparkBoardsModel" "STAMPS" "[[I") (.int (Int32.ofNat j))) (ty := .int) (N := rowLen j) (f := fun k => .int (iI (stampsF j k))) (A := fun q => s.heap.size ≤ q) (by omega) (hs _ h1) (va_eqt (hs _ h2)) (fun k hk => va_eqt (hs _ (h3 k hk))) hA
      exact ⟨t, fun _ => ⟨h4, h5⟩⟩
    · exact ⟨0, fun q => absurd q hj⟩
  obtain ⟨zr, hzr⟩ := Classical.axiomOfChoice hrow
  obtain ⟨zM, eM, tM⟩ := va_Tof (tm := (Term.static "SparkBoardsModel" "STAMPS" "[[I")) (ty := .array .int) (N := 4) (f := fun j => .ref (zr j)) (A := fun q => s.heap.size ≤ q) (by decide) (hs _ nwM_a) (va_eqt (hs _ nwM_l)) (fun j hj => (hzr j hj).1) hA
  obtain ⟨Z, k0, k1, k2, k3, k4, k5⟩ : ∃ Z : Nat → Nat, Z 0 = zR ∧ Z 1 = zD ∧ Z 2 = zS ∧ Z 3 = zT ∧ Z 4 = zM ∧ ∀ j, Z (5 + j) = zr j := by
    refine ⟨fun k => if k = 0 then zR else if k = 1 then zD else if k = 2 then zS else if k = 3 then zT else if k = 4 then zM else zr (k - 5), rfl, rfl, rfl, rfl, rfl, fun j => ?_⟩
    show (if 5 + j = 0 then zR else if 5 + j = 1 then zD else if 5 + j = 2 then zS else if 5 + j = 3 then zT else if 5 + j = 4 then zM else zr (5 + j - 5)) = zr j
    rw [if_neg (by omega), if_neg (by omega), if_neg (by omega), if_neg (by omega), if_neg (by omega), show 5 + j - 5 = j by omega]
  have k6 : (fun j => Value.ref (Z (5 + j))) = fun j => Value.ref (zr j) := funext fun j => by rw [k5 j]
  refine ⟨Z, ?_⟩
  unfold Stat
  rw [k0, k1, k2, k3, k4, k6]
  have m0 : ∀ (i : Nat) (w : Cond), stIni[i]? = some w → w.before #[Value.ref a] s = true := fun i w h => hi w (List.mem_of_getElem? h)
  have iS := m0 7 _ rfl
  have iM := m0 8 _ rfl
  have iT := m0 9 _ rfl
  refine ⟨⟨va_Zref (m0 0 _ rfl) iS eR hA, tR⟩, ⟨va_Zref (m0 1 _ rfl) iS eD hA, tD⟩, ⟨va_Zref (m0 2 _ rfl) iS eS hA, tS⟩, ⟨va_Zref (m0 3 _ rfl) iM eT hA, tT⟩, ⟨va_Zref (m0 4 _ rfl) iM eM hA, tM, fun j hj => by rw [k5 j]; exact (hzr j hj).2⟩, ⟨vx_Zqof (m0 5 _ rfl) iT (hs _ nwU) hA, vx_Zqof (m0 6 _ rfl) iT (hs _ nwN) hA⟩, fun q hq => ?_, fun w hw => pay_in hts (goodIn_sub tb_ex (by decide +kernel)) w hw _ _ (State.WarmedH.refl s), fun q hq => va_Nw.of rfl (hts _ (tb_nest q hq)), fun q hq => va_Nw.of rfl (hts _ (tb_cast q hq)), fun q hq => va_Nc.of (hs _ (nwC q hq)), fun q hq => va_Nw.of rfl (hts _ (tb_decl q hq))⟩
  obtain ⟨sa, c, cA, kA, q1, -⟩ := Cond.exactly_spec (args := #[Value.ref a]) (first := s) (o := none) (s := s) (idx := []) (t := Term.string RX4 q.1) (cls := "java/lang/String") (hs _ (nwX q hq))
  exact ⟨sa, vk_R.of (hts _ (tb_str q hq)) q1⟩
theorem arr_0 {s : State} {a : Nat} {ty : FieldType} (h : (Cond.arrayClass ty).before #[Value.ref a] s = true) : ∃ cA : ClassId, ArrOfT s cA ty ∧ s.vm.findClass ("[" ++ ty.toString) = some cA := by
  obtain ⟨cA, kA, comp, h1, h2, h3⟩ := Cond.arrayClass_spec h
  exact ⟨cA, fun n z => ⟨fun k h => (by cases h), kA, h2, comp, h3⟩, h1⟩
set_option maxHeartbeats 4000000 in
set_option maxRecDepth 100000 in
theorem kn_0 {s : State} {a : Nat} (hts : ∀ w ∈ lw_tbl, w.before #[Value.ref a] s = true) : ∃ (D : va_G) (cI cJ : ClassId), va_K D vwCl [(cI, .int), (cJ, .long)] s := by
  have hi : ∀ w ∈ stIni, w.before #[Value.ref a] s = true := fun w hw => hts w (tb_ini w hw)
  have m0 : ∀ (i : Nat) (w : Cond), stIni[i]? = some w → w.before #[Value.ref a] s = true := fun i w h => hi w (List.mem_of_getElem? h)
  obtain ⟨cI, aI1, aI2⟩ := arr_0 (m0 10 _ rfl)
  obtain ⟨cJ, aJ1, aJ2⟩ := arr_0 (m0 11 _ rfl)
  obtain ⟨c0, i0, g0⟩ := u_known (C := RX0) (T := TX0) (N := 4) (n := 4) hts inX0 (m0 12 _ rfl)
  obtain ⟨c1, i1, g1⟩ := u_known (C := RX1) (T := TX1) (N := 5) (n := 5) hts inX1 (m0 13 _ rfl)
  obtain ⟨c2, i2, g2⟩ := u_known (C := RX2) (T := TX2) (N := 1) (n := 1) hts inX2 (m0 14 _ rfl)
  obtain ⟨c3, i3, g3⟩ := u_known (C := RX3) (T := TX3) (N := 3) (n := 3) hts inX3 (m0 15 _ rfl)
  obtain ⟨c4, i4, g4⟩ := u_known (C := RX4) (T := TX4) (N := 7) (n := 7) hts inX4 (m0 16 _ rfl)
  obtain ⟨c5, i5, g5⟩ := u_known (C := RX5) (T := TX5) (N := 14) (n := 14) hts inX5 (m0 17 _ rfl)
  refine ⟨(fun k => match k with | 0 => c0 | 1 => c1 | 2 => c2 | 3 => c3 | 4 => c4 | _ => c5, fun k => match k with | 0 => i0 | 1 => i1 | 2 => i2 | 3 => i3 | 4 => i4 | _ => i5), cI, cJ, fun k q hq => ?_, fun k q hq => ?_⟩
  · match k, hq with
    | 0, hq => cases hq; exact g0
    | 1, hq => cases hq; exact g1
    | 2, hq => cases hq; exact g2
    | 3, hq => cases hq; exact g3
    | 4, hq => cases hq; exact g4
    | 5, hq => cases hq; exact g5
    | k + 6, hq => cases hq
  · match k, hq with
    | 0, hq => cases hq; exact ⟨aI1, aI2⟩
    | 1, hq => cases hq; exact ⟨aJ1, aJ2⟩
    | k + 2, hq => cases hq
