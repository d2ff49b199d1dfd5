/-- a stamp's cell: offset 0 to 8 and kind -/
def put1 (x y : Int) (p : (Int → Int → Int) × Nat) (o : Nat × Int) : (Int → Int → Int) × Nat :=
  if p.1 (x + ((o.1 % 3 : Nat) : Int)) (y + ((o.1 / 3 : Nat) : Int)) = o.2 then p
  else (up2 p.1 (x + ((o.1 % 3 : Nat) : Int)) (y + ((o.1 / 3 : Nat) : Int)) o.2, p.2 + 1)
def putL (x y : Int) (p : (Int → Int → Int) × Nat) (l : List (Nat × Int)) : (Int → Int → Int) × Nat := l.foldl (put1 x y) p
theorem put1_swap (x y : Int) (p : (Int → Int → Int) × Nat) {a b : Nat × Int} (h : a.1 ≠ b.1) : put1 x y (put1 x y p a) b = put1 x y (put1 x y p b) a := by
  have hne : ¬ (x + ((a.1 % 3 : Nat) : Int) = x + ((b.1 % 3 : Nat) : Int) ∧ y + ((a.1 / 3 : Nat) : Int) = y + ((b.1 / 3 : Nat) : Int)) := by omega
  have hne2 : ¬ (x + ((b.1 % 3 : Nat) : Int) = x + ((a.1 % 3 : Nat) : Int) ∧ y + ((b.1 / 3 : Nat) : Int) = y + ((a.1 / 3 : Nat) : Int)) := by omega
  unfold put1
  generalize x + ((a.1 % 3 : Nat) : Int) = ax at *
  generalize y + ((a.1 / 3 : Nat) : Int) = ay at *
  generalize x + ((b.1 % 3 : Nat) : Int) = bx at *
  generalize y + ((b.1 / 3 : Nat) : Int) = by0 at *
  have e1 : ∀ v, up2 p.1 ax ay v bx by0 = p.1 bx by0 := fun v => up2_n (fun z => hne2 z)
  have e2 : ∀ v, up2 p.1 bx by0 v ax ay = p.1 ax ay := fun v => up2_n (fun z => hne z)
  have e3 : ∀ v v', up2 (up2 p.1 ax ay v) bx by0 v' = up2 (up2 p.1 bx by0 v') ax ay v := by
    intro v v'
    funext q r
    by_cases qa : q = ax ∧ r = ay
    · have qb : ¬ (q = bx ∧ r = by0) := fun z => hne ⟨qa.1 ▸ z.1, qa.2 ▸ z.2⟩
      simp [up2, qa, qb, hne]
    · simp [up2, qa]
  by_cases ha : p.1 ax ay = a.2
  · by_cases hb : p.1 bx by0 = b.2
    · simp [ha, hb]
    · simp [ha, hb, e2]
  · by_cases hb : p.1 bx by0 = b.2
    · simp [ha, hb, e1]
    · simp [ha, hb, e1, e2, e3]
theorem putL_perm (x y : Int) {l l' : List (Nat × Int)} (h : l.Perm l') : ∀ p : (Int → Int → Int) × Nat, (l.map Prod.fst).Nodup → putL x y p l = putL x y p l' := by
  induction h with
  | nil => exact fun _ _ => rfl
  | cons a _ ih => exact fun p hn => ih _ (List.nodup_cons.mp hn).2
  | swap a b l => 
    intro p hn
    show putL x y (put1 x y (put1 x y p b) a) l = putL x y (put1 x y (put1 x y p a) b) l
    rw [put1_swap x y p (a := b) (b := a) (fun q => (List.nodup_cons.mp hn).1 (by simp [q]))]
  | trans h1 _ ih1 ih2 => exact fun p hn => (ih1 p hn).trans (ih2 p ((h1.map Prod.fst).nodup_iff.mp hn))
/-- the kind that the reference finds for offset k -/
def kdS (st tn k : Nat) : Int := stampedF (st * 9 + trn k ((4 - tn) % 4))
def stmL (st tn n : Nat) : List (Nat × Int) := (List.range n).map fun k => (k, kdS st tn k)
def stcL (st tn n : Nat) : List (Nat × Int) := (List.range n).map fun i => (trn i tn, stampedF (st * 9 + i))
theorem stcG_L (g : Int → Int → Int) (st tn : Nat) (x y : Int) : ∀ n, stcG g st tn x y n = putL x y (g, 0) (stcL st tn n)
  | 0 => rfl
  | n + 1 => by
    rw [stcL, List.range_succ, List.map_append, putL, List.foldl_append]
    show stcG g st tn x y (n + 1) = put1 x y (putL x y (g, 0) (stcL st tn n)) (trn n tn, stampedF (st * 9 + n))
    rw [← stcG_L g st tn x y n, stcG]
    rfl
def stmG (g : Int → Int → Int) (st tn : Nat) (x y : Int) (n : Nat) : (Int → Int → Int) × Nat := putL x y (g, 0) (stmL st tn n)
theorem stmG_succ (g : Int → Int → Int) (st tn : Nat) (x y : Int) (n : Nat) : stmG g st tn x y (n + 1) = put1 x y (stmG g st tn x y n) (n, kdS st tn n) := by
  rw [stmG, stmL, List.range_succ, List.map_append, putL, List.foldl_append]
  rfl
theorem stm_stc (g : Int → Int → Int) {st tn : Nat} (hs : st < 4) (ht : tn < 4) (x y : Int) : stmG g st tn x y 9 = stcG g st tn x y 9 := by
  rw [stcG_L, stmG]
  have h1 : ∀ st, st < 4 → ∀ tn, tn < 4 → (stmL st tn 9).isPerm (stcL st tn 9) = true := by decide +kernel
  have h2 : ∀ st, st < 4 → ∀ tn, tn < 4 → ((stmL st tn 9).map Prod.fst).Nodup := by decide +kernel
  exact putL_perm x y (List.isPerm_iff.mp (h1 st hs tn ht)) (g, 0) (h2 st hs tn ht)
/-- the reference's mask of copper -/
def mskG (st tn : Nat) : Nat → Int32
  | 0 => iI 0
  | i + 1 => mskG st tn i ||| ((iI 1) <<< ((iI ((trn (stampsF st i).toNat tn : Nat) : Int)) &&& 31))
theorem msk_kd : ∀ st, st < 4 → ∀ tn, tn < 4 → ∀ k, k < 9 → (((mskG st tn (rowLen st)) >>> ((iI ((k : Nat) : Int)) &&& 31)) &&& (iI 1)) = iI (kdS st tn k) := by decide +kernel
theorem stampsF_rng : ∀ st, st < 4 → ∀ i, i < rowLen st → 0 ≤ stampsF st i ∧ stampsF st i ≤ 8 := by decide +kernel
theorem rowLen_rng (st : Nat) : 3 ≤ rowLen st ∧ rowLen st ≤ 4 := by
  match st with
  | 0 => decide
  | 1 => decide
  | 2 => decide
  | _ + 3 => exact ⟨(by decide : 3 ≤ 4), (by decide : 4 ≤ 4)⟩
theorem kdS_rng (st tn k : Nat) : 0 ≤ kdS st tn k ∧ kdS st tn k ≤ 1 := stampedF_rng _

theorem r_taa {p : Program} {l : Launch} {e : Env} {R : Room} {s : State} {m : MethodId} {args : Array Value} {below : List Frame} {meth : Method} {c : Code} {H : Heap} {locs : List Loc} {cells slots : Nat} {Q : State → Prop} {cc : ByteArray} {nL pc : Nat} {Ts : List Cond} {own : String} {ls : Array Slot} {rest : List Value} {A : Nat → Prop} (S : CallFix p m c cc nL s args Ts own) {t N : Nat} {f : Nat → Value} (hT : va_T (.array .int) t N f A s s.heap) (hS : va_S A s.heap H locs) {i : Int} (j : Nat) (hj : i = (j : Int)) (hlt : j < N) (hn : N < 2147483648) (hd : decode cc pc = .ok (.aaload, 1))
    (kk : W p l e R s m args below meth c H locs cells slots Q (F0 m (pc + 1) ls (f j :: rest))) : W p l e R s m args below meth c H locs cells slots Q (F0 m pc ls (.int (iI i) :: .ref t :: rest)) := by
  have hin : vp_in (iI i) N := iI_in hj hlt hn
  have hv : f (iI i).toNatClampNeg = f j := by rw [iI_cl hj (by omega)]
  obtain ⟨cell, h1, h2, h3, h4, h5, h6, h7⟩ := hT
  have hl2 : (iI i).toNatClampNeg < N := Nat.not_le.mp fun q => hin (Or.inr q)
  have hin2 : ¬ (iI i < 0 ∨ cell.slots.size ≤ (iI i).toNatClampNeg) := by
    intro q
    rcases q with q | q
    · exact hin (Or.inl q)
    · omega
  exact W.aald (v := f j) (ty := .array .int) S.1 S.2.1 (by rw [hS.2.1 t (Array.getElem?_eq_some_iff.mp h1).1 h7]; exact h1) h2 rfl h3 hin2 (by rw [h6 _ hl2, hv]) rfl rfl hd kk
theorem put1_isM {x y : Int} {p : (Int → Int → Int) × Nat} {N : Nat → Int} (k : Nat) (v : Int) (h : isM p.1 N) (hx : -1 ≤ x + ((k % 3 : Nat) : Int) ∧ x + ((k % 3 : Nat) : Int) ≤ 10) (hy : -1 ≤ y + ((k / 3 : Nat) : Int) ∧ y + ((k / 3 : Nat) : Int) ≤ 10) : isM (put1 x y p (k, v)).1 (upZ N (atZ (x + ((k % 3 : Nat) : Int)) (y + ((k / 3 : Nat) : Int))).toNat v) := by
  have hp := isM_put (v := v) h hx hy
  unfold put1
  split
  · rename_i q
    have e : up2 p.1 (x + ((k % 3 : Nat) : Int)) (y + ((k / 3 : Nat) : Int)) v = p.1 := by
      funext a b
      unfold up2
      split
      · rename_i z
        rw [z.1, z.2]
        exact q.symm
      · rfl
    rw [e] at hp
    exact hp
  · exact hp
theorem put1_e {x y : Int} {p : (Int → Int → Int) × Nat} {k : Nat} {v : Int} (h : p.1 (x + ((k % 3 : Nat) : Int)) (y + ((k / 3 : Nat) : Int)) = v) : (put1 x y p (k, v)).2 = p.2 := by
  unfold put1
  rw [if_pos h]
theorem put1_ne {x y : Int} {p : (Int → Int → Int) × Nat} {k : Nat} {v : Int} (h : p.1 (x + ((k % 3 : Nat) : Int)) (y + ((k / 3 : Nat) : Int)) ≠ v) : (put1 x y p (k, v)).2 = p.2 + 1 := by
  unfold put1
  rw [if_neg h]
theorem okG_stm {g : Int → Int → Int} (o : okG g) (st tn : Nat) (x y : Int) : ∀ n, okG (stmG g st tn x y n).1
  | 0 => o
  | n + 1 => by
    rw [stmG_succ]
    unfold put1
    split
    · exact okG_stm o st tn x y n
    · have := kdS_rng st tn n
      exact okG_put (okG_stm o st tn x y n) ⟨by omega, by omega⟩
set_option maxHeartbeats 4000000 in
set_option maxRecDepth 100000 in
theorem mX5_stamp (l : Launch) (D : va_G) (cI cJ : ClassId) (Z : Nat → Nat) (sz : Nat) (mo : Nat) (mna : Nat) (mkp : Nat) (mot : Nat) (mlr : Nat) (mlk : Nat) (mwe : Nat) (mmk : Nat) (mln : Nat) (th : Int) (w : Nat) (h : Nat) (ms : Nat) (ma : Int) (n : Nat) (N : Nat → Int) (KP : Nat → Int) (OT : Nat → Int) (LR : Nat → Int) (LK : Nat → Int) (WE : Nat → Int) (MK : Nat → Int) (LN : Nat → Int) (g : Int → Int → Int) (st0 : Int) (tn0 : Int) (x : Int) (y : Int) (hww : 3 ≤ w ∧ w ≤ 10) (hhh : 3 ≤ h ∧ h ≤ 10) (hM : isM g N) (hok : okG g) (hou : outG w h g) (hst : inR st0) (htn : inR tn0) (hx : inR x) (hy : inR y) : Met l yX5_stamp wsX5_stamp (rmk 2 0 0 44) (va_Pc [.ref mo, .int (iI st0), .int (iI tn0), .int (iI x), .int (iI y)] (preW D [(cI, .int), (cJ, .long)] Z [(mo, .inr (5, [.int (iI th), .int (iI ((w : Nat) : Int)), .int (iI ((h : Nat) : Int)), .int (iI ((ms : Nat) : Int)), .int (iI ma), .int (iI ((n : Nat) : Int)), .ref mna, .ref mkp, .ref mot, .ref mlr, .ref mlk, .ref mwe, .ref mmk, .ref mln])), (mna, .inl (cI, 144, .inl (aI N))), (mkp, .inl (cI, 144, .inl (aI KP))), (mot, .inl (cI, 144, .inl (aI OT))), (mlr, .inl (cI, 20, .inl (aI LR))), (mlk, .inl (cI, 20, .inl (aI LK))), (mwe, .inl (cI, 13104, .inl (aI WE))), (mmk, .inl (cI, 144, .inl (aI MK))), (mln, .inl (cI, 144, .inl (aI LN)))] sz)) (va_Qi (fun (r : Int32) (u : Int × Int × (Nat → Int)) => r = iI u.1 ∧ u.2.1 = cdStamp w h st0 tn0 x y ∧ (cdStamp w h st0 tn0 x y = 0 → u.1 = ((stcG g st0.toNat tn0.toNat x y 9).2 : Nat) ∧ isM (stcG g st0.toNat tn0.toNat x y 9).1 u.2.2) ∧ (cdStamp w h st0 tn0 x y ≠ 0 → u.2.2 = N)) (fun (u : Int × Int × (Nat → Int)) t => aftW D [(cI, .int), (cJ, .long)] [(mo, .inr (5, [.int (iI u.2.1), .int (iI ((w : Nat) : Int)), .int (iI ((h : Nat) : Int)), .int (iI ((ms : Nat) : Int)), .int (iI ma), .int (iI ((n : Nat) : Int)), .ref mna, .ref mkp, .ref mot, .ref mlr, .ref mlk, .ref mwe, .ref mmk, .ref mln])), (mna, .inl (cI, 144, .inl (aI u.2.2))), (mkp, .inl (cI, 144, .inl (aI KP))), (mot, .inl (cI, 144, .inl (aI OT))), (mlr, .inl (cI, 20, .inl (aI LR))), (mlk, .inl (cI, 20, .inl (aI LK))), (mwe, .inl (cI, 13104, .inl (aI WE))), (mmk, .inl (cI, 144, .inl (aI MK))), (mln, .inl (cI, 144, .inl (aI LN)))] (va_A [(mo, .inr (5, [.int (iI th), .int (iI ((w : Nat) : Int)), .int (iI ((h : Nat) : Int)), .int (iI ((ms : Nat) : Int)), .int (iI ma), .int (iI ((n : Nat) : Int)), .ref mna, .ref mkp, .ref mot, .ref mlr, .ref mlk, .ref mwe, .ref mmk, .ref mln])), (mna, .inl (cI, 144, .inl (aI N))), (mkp, .inl (cI, 144, .inl (aI KP))), (mot, .inl (cI, 144, .inl (aI OT))), (mlr, .inl (cI, 20, .inl (aI LR))), (mlk, .inl (cI, 20, .inl (aI LK))), (mwe, .inl (cI, 13104, .inl (aI WE))), (mmk, .inl (cI, 144, .inl (aI MK))), (mln, .inl (cI, 144, .inl (aI LN)))] sz) t) (va_A [(mo, .inr (5, [.int (iI th), .int (iI ((w : Nat) : Int)), .int (iI ((h : Nat) : Int)), .int (iI ((ms : Nat) : Int)), .int (iI ma), .int (iI ((n : Nat) : Int)), .ref mna, .ref mkp, .ref mot, .ref mlr, .ref mlk, .ref mwe, .ref mmk, .ref mln])), (mna, .inl (cI, 144, .inl (aI N))), (mkp, .inl (cI, 144, .inl (aI KP))), (mot, .inl (cI, 144, .inl (aI OT))), (mlr, .inl (cI, 20, .inl (aI LR))), (mlk, .inl (cI, 20, .inl (aI LK))), (mwe, .inl (cI, 13104, .inl (aI WE))), (mmk, .inl (cI, 144, .inl (aI MK))), (mln, .inl (cI, 144, .inl (aI LN)))] sz)) 0 0 (va_A [(mo, .inr (5, [.int (iI th), .int (iI ((w : Nat) : Int)), .int (iI ((h : Nat) : Int)), .int (iI ((ms : Nat) : Int)), .int (iI ma), .int (iI ((n : Nat) : Int)), .ref mna, .ref mkp, .ref mot, .ref mlr, .ref mlk, .ref mwe, .ref mmk, .ref mln])), (mna, .inl (cI, 144, .inl (aI N))), (mkp, .inl (cI, 144, .inl (aI KP))), (mot, .inl (cI, 144, .inl (aI OT))), (mlr, .inl (cI, 20, .inl (aI LR))), (mlk, .inl (cI, 20, .inl (aI LK))), (mwe, .inl (cI, 13104, .inl (aI WE))), (mmk, .inl (cI, 144, .inl (aI MK))), (mln, .inl (cI, 144, .inl (aI LN)))] sz) := by
  refine m_of (cc := cX5_stamp) (maxL := 14) (ret := (some .int)) (Qc := fun A => va_Qi (fun (r : Int32) (u : Int × Int × (Nat → Int)) => r = iI u.1 ∧ u.2.1 = cdStamp w h st0 tn0 x y ∧ (cdStamp w h st0 tn0 x y = 0 → u.1 = ((stcG g st0.toNat tn0.toNat x y 9).2 : Nat) ∧ isM (stcG g st0.toNat tn0.toNat x y 9).1 u.2.2) ∧ (cdStamp w h st0 tn0 x y ≠ 0 → u.2.2 = N)) (fun (u : Int × Int × (Nat → Int)) t => aftW D [(cI, .int), (cJ, .long)] [(mo, .inr (5, [.int (iI u.2.1), .int (iI ((w : Nat) : Int)), .int (iI ((h : Nat) : Int)), .int (iI ((ms : Nat) : Int)), .int (iI ma), .int (iI ((n : Nat) : Int)), .ref mna, .ref mkp, .ref mot, .ref mlr, .ref mlk, .ref mwe, .ref mmk, .ref mln])), (mna, .inl (cI, 144, .inl (aI u.2.2))), (mkp, .inl (cI, 144, .inl (aI KP))), (mot, .inl (cI, 144, .inl (aI OT))), (mlr, .inl (cI, 20, .inl (aI LR))), (mlk, .inl (cI, 20, .inl (aI LK))), (mwe, .inl (cI, 13104, .inl (aI WE))), (mmk, .inl (cI, 144, .inl (aI MK))), (mln, .inl (cI, 144, .inl (aI LN)))] A t) A) RX5 [(0, .ref mo), (1, .int (iI st0)), (2, .int (iI tn0)), (3, .int (iI x)), (4, .int (iI y))] (by decide) rfl rfl (Nat.le_of_ble_eq_true rfl) rfl (fun p e s m below meth c A ls Q S hr hlk hnm hAe hsz hP hK hD hA hZ hS hl hQ => ?_)
  have hi5 : ∀ w ∈ u_ws RX5 TX5 14, w ∈ wsX5_stamp := by decide +kernel
  have hsb_x : (if inB w h x y then (1 : Int) else 0) = 0 ∨ (if inB w h x y then (1 : Int) else 0) = 1 := by split <;> omega
  have hs1 : (if 0 ≤ st0 ∧ st0 ≤ 3 then (1 : Int) else 0) = 0 ∨ (if 0 ≤ st0 ∧ st0 ≤ 3 then (1 : Int) else 0) = 1 := by split <;> omega
  have hs2 : (if 0 ≤ tn0 ∧ tn0 ≤ 3 then (1 : Int) else 0) = 0 ∨ (if 0 ≤ tn0 ∧ tn0 ≤ 3 then (1 : Int) else 0) = 1 := by split <;> omega
  refine lv_aload_n S.1 S.2.1 dX5_stamp_0 rfl (lv_at hl 0 rfl) ?_
  refine r_iconst S dX5_stamp_1 ?_
  refine r_put S hi5 tyX5 tyX5_ok nmX5 hK hP hD hS 0 rfl rfl 0 (by decide) (by decide +kernel) rfl rfl (ty := .int) (v := .int (iI 0)) (by decide +kernel) rfl rfl (by simp) dX5_stamp_2 [(mo, .inr (5, [.int (iI 0), .int (iI ((w : Nat) : Int)), .int (iI ((h : Nat) : Int)), .int (iI ((ms : Nat) : Int)), .int (iI ma), .int (iI ((n : Nat) : Int)), .ref mna, .ref mkp, .ref mot, .ref mlr, .ref mlk, .ref mwe, .ref mmk, .ref mln])), (mna, .inl (cI, 144, .inl (aI N))), (mkp, .inl (cI, 144, .inl (aI KP))), (mot, .inl (cI, 144, .inl (aI OT))), (mlr, .inl (cI, 20, .inl (aI LR))), (mlk, .inl (cI, 20, .inl (aI LK))), (mwe, .inl (cI, 13104, .inl (aI WE))), (mmk, .inl (cI, 144, .inl (aI MK))), (mln, .inl (cI, 144, .inl (aI LN)))] rfl (fun H locs hP hD hS => ?_)
  refine lv_iload_n S.1 S.2.1 dX5_stamp_5 rfl (lv_at hl 1 rfl) ?_
  refine r_iconst S dX5_stamp_6 ?_
  refine r_iconst S dX5_stamp_7 ?_
  refine k_i (wr := [(mo, .inr (5, [.int (iI 0), .int (iI ((w : Nat) : Int)), .int (iI ((h : Nat) : Int)), .int (iI ((ms : Nat) : Int)), .int (iI ma), .int (iI ((n : Nat) : Int)), .ref mna, .ref mkp, .ref mot, .ref mlr, .ref mlk, .ref mwe, .ref mmk, .ref mln])), (mna, .inl (cI, 144, .inl (aI N))), (mkp, .inl (cI, 144, .inl (aI KP))), (mot, .inl (cI, 144, .inl (aI OT))), (mlr, .inl (cI, 20, .inl (aI LR))), (mlk, .inl (cI, 20, .inl (aI LK))), (mwe, .inl (cI, 13104, .inl (aI WE))), (mmk, .inl (cI, 144, .inl (aI MK))), (mln, .inl (cI, 144, .inl (aI LN)))]) (va_runS (As := [.int (iI st0), .int (iI 0), .int (iI 3)]) (rest := []) S (mX5_isIn l D cI cJ Z _ st0 0 3 (by first | with_reducible assumption | omega | exact ⟨by omega, by omega⟩ | assumption) (by first | with_reducible assumption | omega | exact ⟨by omega, by omega⟩ | assumption) (by first | with_reducible assumption | omega | exact ⟨by omega, by omega⟩ | assumption)) (va_cwS 3 S.2.2.2.2 gX5_stamp_X5_isIn rfl rfl rfl (by decide +kernel) ⟨Nat.le_of_ble_eq_true rfl, Nat.le_of_ble_eq_true rfl⟩) (preS_of hK hP hD hS hA hZ [] (by decide) rfl) rfl rfl hl.1 rfl (lv_room (Nat.le_of_ble_eq_true rfl)) dX5_stamp_8 ⟨Nat.le_of_ble_eq_true rfl, Nat.le_of_ble_eq_true rfl⟩) hP hD hS hA [] [0, 1, 2, 3, 4, 5, 6, 7, 8] rfl rfl (by decide) (by decide) [0, 1, 2, 3, 4, 5, 6, 7, 8] (by decide) (fun u => [(mo, .inr (5, [.int (iI 0), .int (iI ((w : Nat) : Int)), .int (iI ((h : Nat) : Int)), .int (iI ((ms : Nat) : Int)), .int (iI ma), .int (iI ((n : Nat) : Int)), .ref mna, .ref mkp, .ref mot, .ref mlr, .ref mlk, .ref mwe, .ref mmk, .ref mln])), (mna, .inl (cI, 144, .inl (aI N))), (mkp, .inl (cI, 144, .inl (aI KP))), (mot, .inl (cI, 144, .inl (aI OT))), (mlr, .inl (cI, 20, .inl (aI LR))), (mlk, .inl (cI, 20, .inl (aI LK))), (mwe, .inl (cI, 13104, .inl (aI WE))), (mmk, .inl (cI, 144, .inl (aI MK))), (mln, .inl (cI, 144, .inl (aI LN)))]) (fun u => rfl) (fun r u H locs hpo hP hD hS => ?_)
  obtain rfl := hpo
  refine r_if_eq S (tgt := 54) dX5_stamp_11 (by decide) ⟨by omega, by omega⟩ (fun c11 => ?_) (fun c11 => ?_)
  · have hno : ¬ (0 ≤ st0 ∧ st0 ≤ 3) := fun q => by rw [if_pos q] at c11; omega
    have hcd : cdStamp w h st0 tn0 x y = 1 := by unfold cdStamp; rw [if_neg (by omega)]
    refine lv_aload_n S.1 S.2.1 dX5_stamp_54 rfl (lv_at hl 0 rfl) ?_
    refine r_iconst S dX5_stamp_55 ?_
    refine k_i (wr := []) (va_runV (As := [.int (iI 1)]) (rest := []) S (mX5_fail l D cI cJ Z _ mo mna mkp mot mlr mlk mwe mmk mln 0 w h ms ma n N KP OT LR LK WE MK LN 1 ) (cwV 1 S.2.2.2.2 gX5_stamp_X5_fail rfl rfl rfl (by decide +kernel) ⟨Nat.le_of_ble_eq_true rfl, Nat.le_of_ble_eq_true rfl⟩) (preV_of hK hP hD hS hA hZ [0, 1, 2, 3, 4, 5, 6, 7, 8] (by decide) rfl 0 5 rfl rfl) rfl rfl hl.1 rfl (lv_room (Nat.le_of_ble_eq_true rfl)) dX5_stamp_56 ⟨Nat.le_of_ble_eq_true rfl, Nat.le_of_ble_eq_true rfl⟩) hP hD hS hA [0, 1, 2, 3, 4, 5, 6, 7, 8] [] rfl rfl (by decide) (by decide) [0, 1, 2, 3, 4, 5, 6, 7, 8] (by decide) (fun u => [(mo, .inr (5, [.int (iI 1), .int (iI ((w : Nat) : Int)), .int (iI ((h : Nat) : Int)), .int (iI ((ms : Nat) : Int)), .int (iI ma), .int (iI ((n : Nat) : Int)), .ref mna, .ref mkp, .ref mot, .ref mlr, .ref mlk, .ref mwe, .ref mmk, .ref mln])), (mna, .inl (cI, 144, .inl (aI N))), (mkp, .inl (cI, 144, .inl (aI KP))), (mot, .inl (cI, 144, .inl (aI OT))), (mlr, .inl (cI, 20, .inl (aI LR))), (mlk, .inl (cI, 20, .inl (aI LK))), (mwe, .inl (cI, 13104, .inl (aI WE))), (mmk, .inl (cI, 144, .inl (aI MK))), (mln, .inl (cI, 144, .inl (aI LN)))]) (fun u => rfl) (fun r u H locs hpo hP hD hS => ?_)
    obtain rfl := hpo
    subst hQ
    exact e_iret S hr hlk hS (Nat.le_of_ble_eq_true rfl) (Nat.le_of_ble_eq_true rfl) (u := (0, 1, N)) (⟨rfl, hcd.symm, fun q => absurd (hcd.symm.trans q) (by decide), fun _ => rfl⟩) (aft_of hK hP hD) dX5_stamp_59
  · have hs3 : 0 ≤ st0 ∧ st0 ≤ 3 := Decidable.byContradiction fun q => c11 (if_neg q)
    refine lv_iload_n S.1 S.2.1 dX5_stamp_14 rfl (lv_at hl 2 rfl) ?_
    refine r_iconst S dX5_stamp_15 ?_
    refine r_iconst S dX5_stamp_16 ?_
    refine k_i (wr := [(mo, .inr (5, [.int (iI 0), .int (iI ((w : Nat) : Int)), .int (iI ((h : Nat) : Int)), .int (iI ((ms : Nat) : Int)), .int (iI ma), .int (iI ((n : Nat) : Int)), .ref mna, .ref mkp, .ref mot, .ref mlr, .ref mlk, .ref mwe, .ref mmk, .ref mln])), (mna, .inl (cI, 144, .inl (aI N))), (mkp, .inl (cI, 144, .inl (aI KP))), (mot, .inl (cI, 144, .inl (aI OT))), (mlr, .inl (cI, 20, .inl (aI LR))), (mlk, .inl (cI, 20, .inl (aI LK))), (mwe, .inl (cI, 13104, .inl (aI WE))), (mmk, .inl (cI, 144, .inl (aI MK))), (mln, .inl (cI, 144, .inl (aI LN)))]) (va_runS (As := [.int (iI tn0), .int (iI 0), .int (iI 3)]) (rest := []) S (mX5_isIn l D cI cJ Z _ tn0 0 3 (by first | with_reducible assumption | omega | exact ⟨by omega, by omega⟩ | assumption) (by first | with_reducible assumption | omega | exact ⟨by omega, by omega⟩ | assumption) (by first | with_reducible assumption | omega | exact ⟨by omega, by omega⟩ | assumption)) (va_cwS 3 S.2.2.2.2 gX5_stamp_X5_isIn rfl rfl rfl (by decide +kernel) ⟨Nat.le_of_ble_eq_true rfl, Nat.le_of_ble_eq_true rfl⟩) (preS_of hK hP hD hS hA hZ [] (by decide) rfl) rfl rfl hl.1 rfl (lv_room (Nat.le_of_ble_eq_true rfl)) dX5_stamp_17 ⟨Nat.le_of_ble_eq_true rfl, Nat.le_of_ble_eq_true rfl⟩) hP hD hS hA [] [0, 1, 2, 3, 4, 5, 6, 7, 8] rfl rfl (by decide) (by decide) [0, 1, 2, 3, 4, 5, 6, 7, 8] (by decide) (fun u => [(mo, .inr (5, [.int (iI 0), .int (iI ((w : Nat) : Int)), .int (iI ((h : Nat) : Int)), .int (iI ((ms : Nat) : Int)), .int (iI ma), .int (iI ((n : Nat) : Int)), .ref mna, .ref mkp, .ref mot, .ref mlr, .ref mlk, .ref mwe, .ref mmk, .ref mln])), (mna, .inl (cI, 144, .inl (aI N))), (mkp, .inl (cI, 144, .inl (aI KP))), (mot, .inl (cI, 144, .inl (aI OT))), (mlr, .inl (cI, 20, .inl (aI LR))), (mlk, .inl (cI, 20, .inl (aI LK))), (mwe, .inl (cI, 13104, .inl (aI WE))), (mmk, .inl (cI, 144, .inl (aI MK))), (mln, .inl (cI, 144, .inl (aI LN)))]) (fun u => rfl) (fun r u H locs hpo hP hD hS => ?_)
    obtain rfl := hpo
    refine r_if_eq S (tgt := 54) dX5_stamp_20 (by decide) ⟨by omega, by omega⟩ (fun c20 => ?_) (fun c20 => ?_)
    · have hno : ¬ (0 ≤ tn0 ∧ tn0 ≤ 3) := fun q => by rw [if_pos q] at c20; omega
      have hcd : cdStamp w h st0 tn0 x y = 1 := by unfold cdStamp; rw [if_neg (by omega)]
      refine lv_aload_n S.1 S.2.1 dX5_stamp_54 rfl (lv_at hl 0 rfl) ?_
      refine r_iconst S dX5_stamp_55 ?_
      refine k_i (wr := []) (va_runV (As := [.int (iI 1)]) (rest := []) S (mX5_fail l D cI cJ Z _ mo mna mkp mot mlr mlk mwe mmk mln 0 w h ms ma n N KP OT LR LK WE MK LN 1 ) (cwV 1 S.2.2.2.2 gX5_stamp_X5_fail rfl rfl rfl (by decide +kernel) ⟨Nat.le_of_ble_eq_true rfl, Nat.le_of_ble_eq_true rfl⟩) (preV_of hK hP hD hS hA hZ [0, 1, 2, 3, 4, 5, 6, 7, 8] (by decide) rfl 0 5 rfl rfl) rfl rfl hl.1 rfl (lv_room (Nat.le_of_ble_eq_true rfl)) dX5_stamp_56 ⟨Nat.le_of_ble_eq_true rfl, Nat.le_of_ble_eq_true rfl⟩) hP hD hS hA [0, 1, 2, 3, 4, 5, 6, 7, 8] [] rfl rfl (by decide) (by decide) [0, 1, 2, 3, 4, 5, 6, 7, 8] (by decide) (fun u => [(mo, .inr (5, [.int (iI 1), .int (iI ((w : Nat) : Int)), .int (iI ((h : Nat) : Int)), .int (iI ((ms : Nat) : Int)), .int (iI ma), .int (iI ((n : Nat) : Int)), .ref mna, .ref mkp, .ref mot, .ref mlr, .ref mlk, .ref mwe, .ref mmk, .ref mln])), (mna, .inl (cI, 144, .inl (aI N))), (mkp, .inl (cI, 144, .inl (aI KP))), (mot, .inl (cI, 144, .inl (aI OT))), (mlr, .inl (cI, 20, .inl (aI LR))), (mlk, .inl (cI, 20, .inl (aI LK))), (mwe, .inl (cI, 13104, .inl (aI WE))), (mmk, .inl (cI, 144, .inl (aI MK))), (mln, .inl (cI, 144, .inl (aI LN)))]) (fun u => rfl) (fun r u H locs hpo hP hD hS => ?_)
      obtain rfl := hpo
      subst hQ
      exact e_iret S hr hlk hS (Nat.le_of_ble_eq_true rfl) (Nat.le_of_ble_eq_true rfl) (u := (0, 1, N)) (⟨rfl, hcd.symm, fun q => absurd (hcd.symm.trans q) (by decide), fun _ => rfl⟩) (aft_of hK hP hD) dX5_stamp_59
    · have ht3 : 0 ≤ tn0 ∧ tn0 ≤ 3 := Decidable.byContradiction fun q => c20 (if_neg q)
      refine lv_aload_n S.1 S.2.1 dX5_stamp_23 rfl (lv_at hl 0 rfl) ?_
      refine lv_iload_n S.1 S.2.1 dX5_stamp_24 rfl (lv_at hl 3 rfl) ?_
      refine lv_iload S.1 S.2.1 dX5_stamp_25 (lv_at hl 4 rfl) ?_
      refine k_i (wr := []) (va_runV (As := [.int (iI x), .int (iI y)]) (rest := []) S (mX5_isCell l D cI cJ Z _ mo mna mkp mot mlr mlk mwe mmk mln 0 w h ms ma n N KP OT LR LK WE MK LN x y (by first | with_reducible assumption | omega | exact ⟨by omega, by omega⟩ | assumption) (by first | with_reducible assumption | omega | exact ⟨by omega, by omega⟩ | assumption) (by first | with_reducible assumption | omega | exact ⟨by omega, by omega⟩ | assumption) (by first | with_reducible assumption | omega | exact ⟨by omega, by omega⟩ | assumption)) (cwV 2 S.2.2.2.2 gX5_stamp_X5_isCell rfl rfl rfl (by decide +kernel) ⟨Nat.le_of_ble_eq_true rfl, Nat.le_of_ble_eq_true rfl⟩) (preV_of hK hP hD hS hA hZ [0, 1, 2, 3, 4, 5, 6, 7, 8] (by decide) rfl 0 5 rfl rfl) rfl rfl hl.1 rfl (lv_room (Nat.le_of_ble_eq_true rfl)) dX5_stamp_27 ⟨Nat.le_of_ble_eq_true rfl, Nat.le_of_ble_eq_true rfl⟩) hP hD hS hA [0, 1, 2, 3, 4, 5, 6, 7, 8] [] rfl rfl (by decide) (by decide) [0, 1, 2, 3, 4, 5, 6, 7, 8] (by decide) (fun u => [(mo, .inr (5, [.int (iI 0), .int (iI ((w : Nat) : Int)), .int (iI ((h : Nat) : Int)), .int (iI ((ms : Nat) : Int)), .int (iI ma), .int (iI ((n : Nat) : Int)), .ref mna, .ref mkp, .ref mot, .ref mlr, .ref mlk, .ref mwe, .ref mmk, .ref mln])), (mna, .inl (cI, 144, .inl (aI N))), (mkp, .inl (cI, 144, .inl (aI KP))), (mot, .inl (cI, 144, .inl (aI OT))), (mlr, .inl (cI, 20, .inl (aI LR))), (mlk, .inl (cI, 20, .inl (aI LK))), (mwe, .inl (cI, 13104, .inl (aI WE))), (mmk, .inl (cI, 144, .inl (aI MK))), (mln, .inl (cI, 144, .inl (aI LN)))]) (fun u => rfl) (fun r u H locs hpo hP hD hS => ?_)
      obtain rfl := hpo
      refine r_if_eq S (tgt := 54) dX5_stamp_30 (by decide) ⟨by omega, by omega⟩ (fun c30 => ?_) (fun c30 => ?_)
      · have hib : ¬ inB w h x y := fun q => by rw [if_pos q] at c30; omega
        have hcd : cdStamp w h st0 tn0 x y = 1 := by unfold cdStamp; rw [if_neg (by omega)]
        refine lv_aload_n S.1 S.2.1 dX5_stamp_54 rfl (lv_at hl 0 rfl) ?_
        refine r_iconst S dX5_stamp_55 ?_
        refine k_i (wr := []) (va_runV (As := [.int (iI 1)]) (rest := []) S (mX5_fail l D cI cJ Z _ mo mna mkp mot mlr mlk mwe mmk mln 0 w h ms ma n N KP OT LR LK WE MK LN 1 ) (cwV 1 S.2.2.2.2 gX5_stamp_X5_fail rfl rfl rfl (by decide +kernel) ⟨Nat.le_of_ble_eq_true rfl, Nat.le_of_ble_eq_true rfl⟩) (preV_of hK hP hD hS hA hZ [0, 1, 2, 3, 4, 5, 6, 7, 8] (by decide) rfl 0 5 rfl rfl) rfl rfl hl.1 rfl (lv_room (Nat.le_of_ble_eq_true rfl)) dX5_stamp_56 ⟨Nat.le_of_ble_eq_true rfl, Nat.le_of_ble_eq_true rfl⟩) hP hD hS hA [0, 1, 2, 3, 4, 5, 6, 7, 8] [] rfl rfl (by decide) (by decide) [0, 1, 2, 3, 4, 5, 6, 7, 8] (by decide) (fun u => [(mo, .inr (5, [.int (iI 1), .int (iI ((w : Nat) : Int)), .int (iI ((h : Nat) : Int)), .int (iI ((ms : Nat) : Int)), .int (iI ma), .int (iI ((n : Nat) : Int)), .ref mna, .ref mkp, .ref mot, .ref mlr, .ref mlk, .ref mwe, .ref mmk, .ref mln])), (mna, .inl (cI, 144, .inl (aI N))), (mkp, .inl (cI, 144, .inl (aI KP))), (mot, .inl (cI, 144, .inl (aI OT))), (mlr, .inl (cI, 20, .inl (aI LR))), (mlk, .inl (cI, 20, .inl (aI LK))), (mwe, .inl (cI, 13104, .inl (aI WE))), (mmk, .inl (cI, 144, .inl (aI MK))), (mln, .inl (cI, 144, .inl (aI LN)))]) (fun u => rfl) (fun r u H locs hpo hP hD hS => ?_)
        obtain rfl := hpo
        subst hQ
        exact e_iret S hr hlk hS (Nat.le_of_ble_eq_true rfl) (Nat.le_of_ble_eq_true rfl) (u := (0, 1, N)) (⟨rfl, hcd.symm, fun q => absurd (hcd.symm.trans q) (by decide), fun _ => rfl⟩) (aft_of hK hP hD) dX5_stamp_59
      · have hib : inB w h x y := Decidable.byContradiction fun q => c30 (if_neg q)
        refine lv_iload_n S.1 S.2.1 dX5_stamp_33 rfl (lv_at hl 3 rfl) ?_
        refine r_iconst S dX5_stamp_34 ?_
        refine r_iadd S dX5_stamp_35 (z := (x + 2)) (rfl) ?_
        refine lv_aload_n S.1 S.2.1 dX5_stamp_36 rfl (lv_at hl 0 rfl) ?_
        refine r_get S hi5 hK hP 0 rfl rfl 1 (by decide) (by decide +kernel) rfl rfl dX5_stamp_37 ?_
        refine r_icmp_ge S (tgt := 54) dX5_stamp_40 (by decide) ⟨by omega, by omega⟩ ⟨by omega, by omega⟩ (fun c40 => ?_) (fun c40 => ?_)
        · have hcd : cdStamp w h st0 tn0 x y = 1 := by unfold cdStamp; rw [if_neg (by omega)]
          refine lv_aload_n S.1 S.2.1 dX5_stamp_54 rfl (lv_at hl 0 rfl) ?_
          refine r_iconst S dX5_stamp_55 ?_
          refine k_i (wr := []) (va_runV (As := [.int (iI 1)]) (rest := []) S (mX5_fail l D cI cJ Z _ mo mna mkp mot mlr mlk mwe mmk mln 0 w h ms ma n N KP OT LR LK WE MK LN 1 ) (cwV 1 S.2.2.2.2 gX5_stamp_X5_fail rfl rfl rfl (by decide +kernel) ⟨Nat.le_of_ble_eq_true rfl, Nat.le_of_ble_eq_true rfl⟩) (preV_of hK hP hD hS hA hZ [0, 1, 2, 3, 4, 5, 6, 7, 8] (by decide) rfl 0 5 rfl rfl) rfl rfl hl.1 rfl (lv_room (Nat.le_of_ble_eq_true rfl)) dX5_stamp_56 ⟨Nat.le_of_ble_eq_true rfl, Nat.le_of_ble_eq_true rfl⟩) hP hD hS hA [0, 1, 2, 3, 4, 5, 6, 7, 8] [] rfl rfl (by decide) (by decide) [0, 1, 2, 3, 4, 5, 6, 7, 8] (by decide) (fun u => [(mo, .inr (5, [.int (iI 1), .int (iI ((w : Nat) : Int)), .int (iI ((h : Nat) : Int)), .int (iI ((ms : Nat) : Int)), .int (iI ma), .int (iI ((n : Nat) : Int)), .ref mna, .ref mkp, .ref mot, .ref mlr, .ref mlk, .ref mwe, .ref mmk, .ref mln])), (mna, .inl (cI, 144, .inl (aI N))), (mkp, .inl (cI, 144, .inl (aI KP))), (mot, .inl (cI, 144, .inl (aI OT))), (mlr, .inl (cI, 20, .inl (aI LR))), (mlk, .inl (cI, 20, .inl (aI LK))), (mwe, .inl (cI, 13104, .inl (aI WE))), (mmk, .inl (cI, 144, .inl (aI MK))), (mln, .inl (cI, 144, .inl (aI LN)))]) (fun u => rfl) (fun r u H locs hpo hP hD hS => ?_)
          obtain rfl := hpo
          subst hQ
          exact e_iret S hr hlk hS (Nat.le_of_ble_eq_true rfl) (Nat.le_of_ble_eq_true rfl) (u := (0, 1, N)) (⟨rfl, hcd.symm, fun q => absurd (hcd.symm.trans q) (by decide), fun _ => rfl⟩) (aft_of hK hP hD) dX5_stamp_59
        · refine lv_iload S.1 S.2.1 dX5_stamp_43 (lv_at hl 4 rfl) ?_
          refine r_iconst S dX5_stamp_45 ?_
          refine r_iadd S dX5_stamp_46 (z := (y + 2)) (rfl) ?_
          refine lv_aload_n S.1 S.2.1 dX5_stamp_47 rfl (lv_at hl 0 rfl) ?_
          refine r_get S hi5 hK hP 0 rfl rfl 2 (by decide) (by decide +kernel) rfl rfl dX5_stamp_48 ?_
          refine r_icmp_lt S (tgt := 60) dX5_stamp_51 (by decide) ⟨by omega, by omega⟩ ⟨by omega, by omega⟩ (fun c51 => ?_) (fun c51 => ?_)
          · obtain ⟨st, rfl⟩ : ∃ q : Nat, st0 = (q : Int) := ⟨st0.toNat, by omega⟩
            obtain ⟨tn, rfl⟩ : ∃ q : Nat, tn0 = (q : Int) := ⟨tn0.toNat, by omega⟩
            have hst4 : st < 4 := by omega
            have htn4 : tn < 4 := by omega
            have hrl := rowLen_rng st
            refine r_iconst S dX5_stamp_60 ?_
            refine lv_istore (lv' := [(5, .int (iI 0)), (0, .ref mo), (1, .int (iI ((st : Nat) : Int))), (2, .int (iI ((tn : Nat) : Int))), (3, .int (iI x)), (4, .int (iI y))]) S.1 S.2.1 dX5_stamp_61 hl (by decide) rfl (fun ls hl => ?_)
            refine r_gets S hZ.2.2.2.2.1.1 hS (hZ.word (by decide +kernel) _) dX5_stamp_63 ?_
            refine lv_iload_n S.1 S.2.1 dX5_stamp_66 rfl (lv_at hl 2 rfl) ?_
            refine r_taa S hZ.2.2.2.2.1.2.1 hS st rfl hst4 (by decide) dX5_stamp_67 ?_
            refine lv_astore (lv' := [(6, .ref (Z (5 + st))), (5, .int (iI 0)), (0, .ref mo), (1, .int (iI ((st : Nat) : Int))), (2, .int (iI ((tn : Nat) : Int))), (3, .int (iI x)), (4, .int (iI y))]) S.1 S.2.1 dX5_stamp_68 hl (by decide) rfl (fun ls hl => ?_)
            refine lv_aload S.1 S.2.1 dX5_stamp_70 (lv_at hl 0 rfl) ?_
            refine va_tlen S.1 S.2.1 (hZ.2.2.2.2.1.2.2 st hst4) hS (v := iI ((rowLen st : Nat) : Int)) (by first | rfl | exact (Int32.ofInt_natCast _).symm | simp [iI]) dX5_stamp_72 ?_
            refine lv_istore (lv' := [(7, .int (iI ((rowLen st : Nat) : Int))), (6, .ref (Z (5 + st))), (5, .int (iI 0)), (0, .ref mo), (1, .int (iI ((st : Nat) : Int))), (2, .int (iI ((tn : Nat) : Int))), (3, .int (iI x)), (4, .int (iI y))]) S.1 S.2.1 dX5_stamp_73 hl (by decide) rfl (fun ls hl => ?_)
            refine r_iconst S dX5_stamp_75 ?_
            refine lv_istore (lv' := [(8, .int (iI 0)), (7, .int (iI ((rowLen st : Nat) : Int))), (6, .ref (Z (5 + st))), (5, .int (iI 0)), (0, .ref mo), (1, .int (iI ((st : Nat) : Int))), (2, .int (iI ((tn : Nat) : Int))), (3, .int (iI x)), (4, .int (iI y))]) S.1 S.2.1 dX5_stamp_76 hl (by decide) rfl (fun ls hl => ?_)
            have lp78 : ∀ (fu : Nat) (i : Nat) (mq : Int32), rowLen st - i < fu → (i ≤ rowLen st) → (mq = mskG st tn i) → ∀ (H : Heap) (locs : List Loc) (ls : Array Slot), va_P D vwCl [(mo, .inr (5, [.int (iI 0), .int (iI ((w : Nat) : Int)), .int (iI ((h : Nat) : Int)), .int (iI ((ms : Nat) : Int)), .int (iI ma), .int (iI ((n : Nat) : Int)), .ref mna, .ref mkp, .ref mot, .ref mlr, .ref mlk, .ref mwe, .ref mmk, .ref mln])), (mna, .inl (cI, 144, .inl (aI N))), (mkp, .inl (cI, 144, .inl (aI KP))), (mot, .inl (cI, 144, .inl (aI OT))), (mlr, .inl (cI, 20, .inl (aI LR))), (mlk, .inl (cI, 20, .inl (aI LK))), (mwe, .inl (cI, 13104, .inl (aI WE))), (mmk, .inl (cI, 144, .inl (aI MK))), (mln, .inl (cI, 144, .inl (aI LN)))] H → va_D A [(mo, .inr (5, [.int (iI 0), .int (iI ((w : Nat) : Int)), .int (iI ((h : Nat) : Int)), .int (iI ((ms : Nat) : Int)), .int (iI ma), .int (iI ((n : Nat) : Int)), .ref mna, .ref mkp, .ref mot, .ref mlr, .ref mlk, .ref mwe, .ref mmk, .ref mln])), (mna, .inl (cI, 144, .inl (aI N))), (mkp, .inl (cI, 144, .inl (aI KP))), (mot, .inl (cI, 144, .inl (aI OT))), (mlr, .inl (cI, 20, .inl (aI LR))), (mlk, .inl (cI, 20, .inl (aI LK))), (mwe, .inl (cI, 13104, .inl (aI WE))), (mmk, .inl (cI, 144, .inl (aI MK))), (mln, .inl (cI, 144, .inl (aI LN)))] → va_S A s.heap H locs → lv_has ls 14 [(0, .ref mo), (1, .int (iI ((st : Nat) : Int))), (2, .int (iI ((tn : Nat) : Int))), (3, .int (iI x)), (4, .int (iI y)), (5, .int mq), (6, .ref (Z (5 + st))), (7, .int (iI ((rowLen st : Nat) : Int))), (8, .int (iI ((i : Nat) : Int)))] → W p l e (rmk 2 0 0 44) s m ([.ref mo, .int (iI ((st : Nat) : Int)), .int (iI ((tn : Nat) : Int)), .int (iI x), .int (iI y)] : List Value).toArray below meth c H locs 0 0 Q (F0 m 78 ls []) := by
              intro fu
              induction fu with
              | zero => intro i mq hmu; exact absurd hmu (Nat.not_lt_zero _)
              | succ fu ih_lp78 =>
                intro i mq hmu hi hmq H locs ls hP hD hS hl
                refine lv_iload S.1 S.2.1 dX5_stamp_78 (lv_at hl 8 rfl) ?_
                refine lv_iload S.1 S.2.1 dX5_stamp_80 (lv_at hl 7 rfl) ?_
                refine r_icmp_ge S (tgt := 153) dX5_stamp_82 (by decide) ⟨by omega, by omega⟩ ⟨by omega, by omega⟩ (fun c82 => ?_) (fun c82 => ?_)
                · refine r_iconst S dX5_stamp_153 ?_
                  refine lv_istore (lv' := [(6, .int (iI 0)), (0, .ref mo), (1, .int (iI ((st : Nat) : Int))), (2, .int (iI ((tn : Nat) : Int))), (3, .int (iI x)), (4, .int (iI y)), (5, .int mq), (7, .int (iI ((rowLen st : Nat) : Int))), (8, .int (iI ((i : Nat) : Int)))]) S.1 S.2.1 dX5_stamp_154 hl (by decide) rfl (fun ls hl => ?_)
                  refine r_iconst S dX5_stamp_156 ?_
                  refine lv_istore (lv' := [(7, .int (iI 0)), (6, .int (iI 0)), (0, .ref mo), (1, .int (iI ((st : Nat) : Int))), (2, .int (iI ((tn : Nat) : Int))), (3, .int (iI x)), (4, .int (iI y)), (5, .int mq), (8, .int (iI ((i : Nat) : Int)))]) S.1 S.2.1 dX5_stamp_157 hl (by decide) rfl (fun ls hl => ?_)
                  have lp159 : ∀ (fu : Nat) (k : Nat) (N1 : Nat → Int) (v : Int), 9 - k < fu → (k ≤ 9) → (isM (stmG g st tn x y k).1 N1) → (v = ((stmG g st tn x y k).2 : Nat)) → ∀ (H : Heap) (locs : List Loc) (ls : Array Slot), va_P D vwCl [(mo, .inr (5, [.int (iI 0), .int (iI ((w : Nat) : Int)), .int (iI ((h : Nat) : Int)), .int (iI ((ms : Nat) : Int)), .int (iI ma), .int (iI ((n : Nat) : Int)), .ref mna, .ref mkp, .ref mot, .ref mlr, .ref mlk, .ref mwe, .ref mmk, .ref mln])), (mna, .inl (cI, 144, .inl (aI N1))), (mkp, .inl (cI, 144, .inl (aI KP))), (mot, .inl (cI, 144, .inl (aI OT))), (mlr, .inl (cI, 20, .inl (aI LR))), (mlk, .inl (cI, 20, .inl (aI LK))), (mwe, .inl (cI, 13104, .inl (aI WE))), (mmk, .inl (cI, 144, .inl (aI MK))), (mln, .inl (cI, 144, .inl (aI LN)))] H → va_D A [(mo, .inr (5, [.int (iI 0), .int (iI ((w : Nat) : Int)), .int (iI ((h : Nat) : Int)), .int (iI ((ms : Nat) : Int)), .int (iI ma), .int (iI ((n : Nat) : Int)), .ref mna, .ref mkp, .ref mot, .ref mlr, .ref mlk, .ref mwe, .ref mmk, .ref mln])), (mna, .inl (cI, 144, .inl (aI N1))), (mkp, .inl (cI, 144, .inl (aI KP))), (mot, .inl (cI, 144, .inl (aI OT))), (mlr, .inl (cI, 20, .inl (aI LR))), (mlk, .inl (cI, 20, .inl (aI LK))), (mwe, .inl (cI, 13104, .inl (aI WE))), (mmk, .inl (cI, 144, .inl (aI MK))), (mln, .inl (cI, 144, .inl (aI LN)))] → va_S A s.heap H locs → lv_has ls 14 [(0, .ref mo), (1, .int (iI ((st : Nat) : Int))), (2, .int (iI ((tn : Nat) : Int))), (3, .int (iI x)), (4, .int (iI y)), (5, .int mq), (6, .int (iI v)), (7, .int (iI ((k : Nat) : Int)))] → W p l e (rmk 2 0 0 44) s m ([.ref mo, .int (iI ((st : Nat) : Int)), .int (iI ((tn : Nat) : Int)), .int (iI x), .int (iI y)] : List Value).toArray below meth c H locs 0 0 Q (F0 m 159 ls []) := by
                    intro fu
                    induction fu with
                    | zero => intro k N1 v hmu; exact absurd hmu (Nat.not_lt_zero _)
                    | succ fu ih_lp159 =>
                      intro k N1 v hmu hk hN hv H locs ls hP hD hS hl
                      refine lv_iload S.1 S.2.1 dX5_stamp_159 (lv_at hl 7 rfl) ?_
                      refine r_bipush S dX5_stamp_161 (by decide) ?_
                      refine r_icmp_ge S (tgt := 230) dX5_stamp_163 (by decide) ⟨by omega, by omega⟩ ⟨by decide, by decide⟩ (fun c163 => ?_) (fun c163 => ?_)
                      · refine lv_iload S.1 S.2.1 dX5_stamp_230 (lv_at hl 6 rfl) ?_
                        subst hQ
                        exact e_iret S hr hlk hS (Nat.le_of_ble_eq_true rfl) (Nat.le_of_ble_eq_true rfl) (u := (v, 0, N1)) (by rw [show k = 9 by omega, stm_stc g hst4 htn4 x y] at hN hv; have hcd : cdStamp w h (st : Int) (tn : Int) x y = 0 := by { unfold cdStamp; rw [if_pos (by omega)] }; exact ⟨rfl, hcd.symm, fun _ => ⟨hv, hN⟩, fun q => absurd hcd q⟩) (aft_of hK hP hD) dX5_stamp_232
                      · have har := atZ_rng (x := (x + ((k % 3 : Nat) : Int))) (y := (y + ((k / 3 : Nat) : Int))) (by omega) (by omega)
                        have hgi := hN (x + ((k % 3 : Nat) : Int)) (y + ((k / 3 : Nat) : Int)) (by omega) (by omega)
                        have hgr := okG_stm hok st tn x y k (x + ((k % 3 : Nat) : Int)) (y + ((k / 3 : Nat) : Int))
                        have hkr := kdS_rng st tn k
                        refine lv_iload_n S.1 S.2.1 dX5_stamp_166 rfl (lv_at hl 3 rfl) ?_
                        refine lv_iload S.1 S.2.1 dX5_stamp_167 (lv_at hl 7 rfl) ?_
                        refine r_iconst S dX5_stamp_169 ?_
                        refine r_irem S dX5_stamp_170 (z := ((k % 3 : Nat) : Int)) ⟨by omega, by omega⟩ ⟨by omega, by omega⟩ (by omega) ?_
                        refine r_iadd S dX5_stamp_171 (z := (x + ((k % 3 : Nat) : Int))) (rfl) ?_
                        refine lv_iload S.1 S.2.1 dX5_stamp_172 (lv_at hl 4 rfl) ?_
                        refine lv_iload S.1 S.2.1 dX5_stamp_174 (lv_at hl 7 rfl) ?_
                        refine r_iconst S dX5_stamp_176 ?_
                        refine r_idiv S dX5_stamp_177 (z := ((k / 3 : Nat) : Int)) ⟨by omega, by omega⟩ ⟨by omega, by omega⟩ (by omega) ?_
                        refine r_iadd S dX5_stamp_178 (z := (y + ((k / 3 : Nat) : Int))) (rfl) ?_
                        refine k_i (wr := [(mo, .inr (5, [.int (iI 0), .int (iI ((w : Nat) : Int)), .int (iI ((h : Nat) : Int)), .int (iI ((ms : Nat) : Int)), .int (iI ma), .int (iI ((n : Nat) : Int)), .ref mna, .ref mkp, .ref mot, .ref mlr, .ref mlk, .ref mwe, .ref mmk, .ref mln])), (mna, .inl (cI, 144, .inl (aI N1))), (mkp, .inl (cI, 144, .inl (aI KP))), (mot, .inl (cI, 144, .inl (aI OT))), (mlr, .inl (cI, 20, .inl (aI LR))), (mlk, .inl (cI, 20, .inl (aI LK))), (mwe, .inl (cI, 13104, .inl (aI WE))), (mmk, .inl (cI, 144, .inl (aI MK))), (mln, .inl (cI, 144, .inl (aI LN)))]) (va_runS (As := [.int (iI (x + ((k % 3 : Nat) : Int))), .int (iI (y + ((k / 3 : Nat) : Int)))]) (rest := []) S (mX5_at l D cI cJ Z _ (x + ((k % 3 : Nat) : Int)) (y + ((k / 3 : Nat) : Int)) ) (va_cwS 2 S.2.2.2.2 gX5_stamp_X5_at rfl rfl rfl (by decide +kernel) ⟨Nat.le_of_ble_eq_true rfl, Nat.le_of_ble_eq_true rfl⟩) (preS_of hK hP hD hS hA hZ [] (by decide) rfl) rfl rfl hl.1 rfl (lv_room (Nat.le_of_ble_eq_true rfl)) dX5_stamp_179 ⟨Nat.le_of_ble_eq_true rfl, Nat.le_of_ble_eq_true rfl⟩) hP hD hS hA [] [0, 1, 2, 3, 4, 5, 6, 7, 8] rfl rfl (by decide) (by decide) [0, 1, 2, 3, 4, 5, 6, 7, 8] (by decide) (fun u => [(mo, .inr (5, [.int (iI 0), .int (iI ((w : Nat) : Int)), .int (iI ((h : Nat) : Int)), .int (iI ((ms : Nat) : Int)), .int (iI ma), .int (iI ((n : Nat) : Int)), .ref mna, .ref mkp, .ref mot, .ref mlr, .ref mlk, .ref mwe, .ref mmk, .ref mln])), (mna, .inl (cI, 144, .inl (aI N1))), (mkp, .inl (cI, 144, .inl (aI KP))), (mot, .inl (cI, 144, .inl (aI OT))), (mlr, .inl (cI, 20, .inl (aI LR))), (mlk, .inl (cI, 20, .inl (aI LK))), (mwe, .inl (cI, 13104, .inl (aI WE))), (mmk, .inl (cI, 144, .inl (aI MK))), (mln, .inl (cI, 144, .inl (aI LN)))]) (fun u => rfl) (fun r u H locs hpo hP hD hS => ?_)
                        obtain rfl := hpo
                        refine lv_istore (lv' := [(8, .int (iI (atZ (x + ((k % 3 : Nat) : Int)) (y + ((k / 3 : Nat) : Int))))), (0, .ref mo), (1, .int (iI ((st : Nat) : Int))), (2, .int (iI ((tn : Nat) : Int))), (3, .int (iI x)), (4, .int (iI y)), (5, .int mq), (6, .int (iI v)), (7, .int (iI ((k : Nat) : Int)))]) S.1 S.2.1 dX5_stamp_182 hl (by decide) rfl (fun ls hl => ?_)
                        refine lv_iload S.1 S.2.1 dX5_stamp_184 (lv_at hl 6 rfl) ?_
                        refine lv_iload S.1 S.2.1 dX5_stamp_186 (lv_at hl 8 rfl) ?_
                        refine lv_ishr S.1 S.2.1 dX5_stamp_188 ?_
                        refine r_iconst S dX5_stamp_189 ?_
                        refine lv_iand S.1 S.2.1 dX5_stamp_190 ?_
                        rw [show ((mq >>> ((iI ((k : Nat) : Int)) &&& 31)) &&& (iI 1)) = iI (kdS st tn k) from by rw [hmq, show i = rowLen st by omega]; exact msk_kd st hst4 tn htn4 k (by omega)]
                        refine lv_istore (lv' := [(9, .int (iI (kdS st tn k))), (8, .int (iI (atZ (x + ((k % 3 : Nat) : Int)) (y + ((k / 3 : Nat) : Int))))), (0, .ref mo), (1, .int (iI ((st : Nat) : Int))), (2, .int (iI ((tn : Nat) : Int))), (3, .int (iI x)), (4, .int (iI y)), (5, .int mq), (6, .int (iI v)), (7, .int (iI ((k : Nat) : Int)))]) S.1 S.2.1 dX5_stamp_191 hl (by decide) rfl (fun ls hl => ?_)
                        refine lv_iload S.1 S.2.1 dX5_stamp_193 (lv_at hl 8 rfl) ?_
                        refine lv_aload_n S.1 S.2.1 dX5_stamp_195 rfl (lv_at hl 2 rfl) ?_
                        refine r_get S hi5 hK hP 0 rfl rfl 6 (by decide) (by decide +kernel) rfl rfl dX5_stamp_196 ?_
                        refine lv_iload S.1 S.2.1 dX5_stamp_199 (lv_at hl 1 rfl) ?_
                        refine r_iald S hK hP 1 0 rfl rfl ((atZ (x + ((k % 3 : Nat) : Int)) (y + ((k / 3 : Nat) : Int))).toNat) (by omega) (by omega) (by decide) dX5_stamp_201 ?_
                        refine lv_iload S.1 S.2.1 dX5_stamp_202 (lv_at hl 0 rfl) ?_
                        refine r_icmp_ne S (tgt := 211) dX5_stamp_204 (by decide) ⟨by omega, by omega⟩ ⟨by omega, by omega⟩ (fun c204 => ?_) (fun c204 => ?_)
                        · have hv1 := put1_ne (p := (stmG g st tn x y k)) (k := k) (v := kdS st tn k) (by rw [← hgi]; exact c204)
                          refine r_iconst S dX5_stamp_211 ?_
                          refine r_iadd S dX5_stamp_212 (z := (v + 1)) (rfl) ?_
                          refine lv_istore (lv' := [(6, .int (iI (v + 1))), (9, .int (iI (kdS st tn k))), (8, .int (iI (atZ (x + ((k % 3 : Nat) : Int)) (y + ((k / 3 : Nat) : Int))))), (0, .ref mo), (1, .int (iI ((st : Nat) : Int))), (2, .int (iI ((tn : Nat) : Int))), (3, .int (iI x)), (4, .int (iI y)), (5, .int mq), (7, .int (iI ((k : Nat) : Int)))]) S.1 S.2.1 dX5_stamp_213 hl (by decide) rfl (fun ls hl => ?_)
                          refine lv_aload_n S.1 S.2.1 dX5_stamp_215 rfl (lv_at hl 3 rfl) ?_
                          refine r_get S hi5 hK hP 0 rfl rfl 6 (by decide) (by decide +kernel) rfl rfl dX5_stamp_216 ?_
                          refine lv_iload S.1 S.2.1 dX5_stamp_219 (lv_at hl 2 rfl) ?_
                          refine lv_iload S.1 S.2.1 dX5_stamp_221 (lv_at hl 1 rfl) ?_
                          refine r_iast S hK hP hD hS 1 0 rfl rfl ((atZ (x + ((k % 3 : Nat) : Int)) (y + ((k / 3 : Nat) : Int))).toNat) (by omega) (by omega) (by decide) dX5_stamp_223 [(mo, .inr (5, [.int (iI 0), .int (iI ((w : Nat) : Int)), .int (iI ((h : Nat) : Int)), .int (iI ((ms : Nat) : Int)), .int (iI ma), .int (iI ((n : Nat) : Int)), .ref mna, .ref mkp, .ref mot, .ref mlr, .ref mlk, .ref mwe, .ref mmk, .ref mln])), (mna, .inl (cI, 144, .inl (aI (upZ N1 ((atZ (x + ((k % 3 : Nat) : Int)) (y + ((k / 3 : Nat) : Int))).toNat) (kdS st tn k))))), (mkp, .inl (cI, 144, .inl (aI KP))), (mot, .inl (cI, 144, .inl (aI OT))), (mlr, .inl (cI, 20, .inl (aI LR))), (mlk, .inl (cI, 20, .inl (aI LK))), (mwe, .inl (cI, 13104, .inl (aI WE))), (mmk, .inl (cI, 144, .inl (aI MK))), (mln, .inl (cI, 144, .inl (aI LN)))] rfl (fun H locs hP hD hS => ?_)
                          refine r_iinc S (z := ((k + 1 : Nat) : Int)) (k0 := 9) (lv' := [(7, .int (iI ((k + 1 : Nat) : Int))), (6, .int (iI (v + 1))), (9, .int (iI (kdS st tn k))), (8, .int (iI (atZ (x + ((k % 3 : Nat) : Int)) (y + ((k / 3 : Nat) : Int))))), (0, .ref mo), (1, .int (iI ((st : Nat) : Int))), (2, .int (iI ((tn : Nat) : Int))), (3, .int (iI x)), (4, .int (iI y)), (5, .int mq)]) dX5_stamp_224 hl rfl (by omega) (by decide) rfl (fun ls hl => ?_)
                          refine r_goto S (tgt := 159) dX5_stamp_227 (by decide) ?_
                          exact ih_lp159 (k + 1) (upZ N1 ((atZ (x + ((k % 3 : Nat) : Int)) (y + ((k / 3 : Nat) : Int))).toNat) (kdS st tn k)) (v + 1) (by omega) (by omega) (by rw [stmG_succ]; exact put1_isM k _ hN (by omega) (by omega)) (by rw [stmG_succ, hv1]; omega) _ _ _ hP hD hS (lv_sub hl [4, 5, 6, 7, 8, 9, 1, 0] rfl)
                        · have hv1 := put1_e (p := (stmG g st tn x y k)) (k := k) (v := kdS st tn k) (by rw [← hgi]; exact c204)
                          refine r_iconst S dX5_stamp_207 ?_
                          refine r_goto S (tgt := 212) dX5_stamp_208 (by decide) ?_
                          refine r_iadd S dX5_stamp_212 (z := (v + 0)) (rfl) ?_
                          refine lv_istore (lv' := [(6, .int (iI (v + 0))), (9, .int (iI (kdS st tn k))), (8, .int (iI (atZ (x + ((k % 3 : Nat) : Int)) (y + ((k / 3 : Nat) : Int))))), (0, .ref mo), (1, .int (iI ((st : Nat) : Int))), (2, .int (iI ((tn : Nat) : Int))), (3, .int (iI x)), (4, .int (iI y)), (5, .int mq), (7, .int (iI ((k : Nat) : Int)))]) S.1 S.2.1 dX5_stamp_213 hl (by decide) rfl (fun ls hl => ?_)
                          refine lv_aload_n S.1 S.2.1 dX5_stamp_215 rfl (lv_at hl 3 rfl) ?_
                          refine r_get S hi5 hK hP 0 rfl rfl 6 (by decide) (by decide +kernel) rfl rfl dX5_stamp_216 ?_
                          refine lv_iload S.1 S.2.1 dX5_stamp_219 (lv_at hl 2 rfl) ?_
                          refine lv_iload S.1 S.2.1 dX5_stamp_221 (lv_at hl 1 rfl) ?_
                          refine r_iast S hK hP hD hS 1 0 rfl rfl ((atZ (x + ((k % 3 : Nat) : Int)) (y + ((k / 3 : Nat) : Int))).toNat) (by omega) (by omega) (by decide) dX5_stamp_223 [(mo, .inr (5, [.int (iI 0), .int (iI ((w : Nat) : Int)), .int (iI ((h : Nat) : Int)), .int (iI ((ms : Nat) : Int)), .int (iI ma), .int (iI ((n : Nat) : Int)), .ref mna, .ref mkp, .ref mot, .ref mlr, .ref mlk, .ref mwe, .ref mmk, .ref mln])), (mna, .inl (cI, 144, .inl (aI (upZ N1 ((atZ (x + ((k % 3 : Nat) : Int)) (y + ((k / 3 : Nat) : Int))).toNat) (kdS st tn k))))), (mkp, .inl (cI, 144, .inl (aI KP))), (mot, .inl (cI, 144, .inl (aI OT))), (mlr, .inl (cI, 20, .inl (aI LR))), (mlk, .inl (cI, 20, .inl (aI LK))), (mwe, .inl (cI, 13104, .inl (aI WE))), (mmk, .inl (cI, 144, .inl (aI MK))), (mln, .inl (cI, 144, .inl (aI LN)))] rfl (fun H locs hP hD hS => ?_)
                          refine r_iinc S (z := ((k + 1 : Nat) : Int)) (k0 := 9) (lv' := [(7, .int (iI ((k + 1 : Nat) : Int))), (6, .int (iI (v + 0))), (9, .int (iI (kdS st tn k))), (8, .int (iI (atZ (x + ((k % 3 : Nat) : Int)) (y + ((k / 3 : Nat) : Int))))), (0, .ref mo), (1, .int (iI ((st : Nat) : Int))), (2, .int (iI ((tn : Nat) : Int))), (3, .int (iI x)), (4, .int (iI y)), (5, .int mq)]) dX5_stamp_224 hl rfl (by omega) (by decide) rfl (fun ls hl => ?_)
                          refine r_goto S (tgt := 159) dX5_stamp_227 (by decide) ?_
                          exact ih_lp159 (k + 1) (upZ N1 ((atZ (x + ((k % 3 : Nat) : Int)) (y + ((k / 3 : Nat) : Int))).toNat) (kdS st tn k)) (v + 0) (by omega) (by omega) (by rw [stmG_succ]; exact put1_isM k _ hN (by omega) (by omega)) (by rw [stmG_succ, hv1]; omega) _ _ _ hP hD hS (lv_sub hl [4, 5, 6, 7, 8, 9, 1, 0] rfl)
                  exact lp159 _ 0 N 0 (Nat.lt_succ_self _) (by omega) hM rfl _ _ _ hP hD hS (lv_sub hl [2, 3, 4, 5, 6, 7, 1, 0] rfl)
                · have hsr := stampsF_rng st hst4 i (by omega)
                  refine lv_aload S.1 S.2.1 dX5_stamp_85 (lv_at hl 6 rfl) ?_
                  refine lv_iload S.1 S.2.1 dX5_stamp_87 (lv_at hl 8 rfl) ?_
                  refine r_ti S (hZ.2.2.2.2.1.2.2 st hst4) hS i (rfl) (by omega) (by omega) dX5_stamp_89 ?_
                  refine lv_istore (lv' := [(9, .int (iI (stampsF st i))), (0, .ref mo), (1, .int (iI ((st : Nat) : Int))), (2, .int (iI ((tn : Nat) : Int))), (3, .int (iI x)), (4, .int (iI y)), (5, .int mq), (6, .ref (Z (5 + st))), (7, .int (iI ((rowLen st : Nat) : Int))), (8, .int (iI ((i : Nat) : Int)))]) S.1 S.2.1 dX5_stamp_90 hl (by decide) rfl (fun ls hl => ?_)
                  refine lv_iload S.1 S.2.1 dX5_stamp_92 (lv_at hl 0 rfl) ?_
                  refine r_iconst S dX5_stamp_94 ?_
                  refine r_irem S dX5_stamp_95 (z := (((stampsF st i).toNat % 3 : Nat) : Int)) ⟨by omega, by omega⟩ ⟨by omega, by omega⟩ (by omega) ?_
                  refine lv_istore (lv' := [(10, .int (iI (((stampsF st i).toNat % 3 : Nat) : Int))), (9, .int (iI (stampsF st i))), (0, .ref mo), (1, .int (iI ((st : Nat) : Int))), (2, .int (iI ((tn : Nat) : Int))), (3, .int (iI x)), (4, .int (iI y)), (5, .int mq), (6, .ref (Z (5 + st))), (7, .int (iI ((rowLen st : Nat) : Int))), (8, .int (iI ((i : Nat) : Int)))]) S.1 S.2.1 dX5_stamp_96 hl (by decide) rfl (fun ls hl => ?_)
                  refine lv_iload S.1 S.2.1 dX5_stamp_98 (lv_at hl 1 rfl) ?_
                  refine r_iconst S dX5_stamp_100 ?_
                  refine r_idiv S dX5_stamp_101 (z := (((stampsF st i).toNat / 3 : Nat) : Int)) ⟨by omega, by omega⟩ ⟨by omega, by omega⟩ (by omega) ?_
                  refine lv_istore (lv' := [(11, .int (iI (((stampsF st i).toNat / 3 : Nat) : Int))), (10, .int (iI (((stampsF st i).toNat % 3 : Nat) : Int))), (9, .int (iI (stampsF st i))), (0, .ref mo), (1, .int (iI ((st : Nat) : Int))), (2, .int (iI ((tn : Nat) : Int))), (3, .int (iI x)), (4, .int (iI y)), (5, .int mq), (6, .ref (Z (5 + st))), (7, .int (iI ((rowLen st : Nat) : Int))), (8, .int (iI ((i : Nat) : Int)))]) S.1 S.2.1 dX5_stamp_102 hl (by decide) rfl (fun ls hl => ?_)
                  refine r_iconst S dX5_stamp_104 ?_
                  refine lv_istore (lv' := [(12, .int (iI 0)), (11, .int (iI (((stampsF st i).toNat / 3 : Nat) : Int))), (10, .int (iI (((stampsF st i).toNat % 3 : Nat) : Int))), (9, .int (iI (stampsF st i))), (0, .ref mo), (1, .int (iI ((st : Nat) : Int))), (2, .int (iI ((tn : Nat) : Int))), (3, .int (iI x)), (4, .int (iI y)), (5, .int mq), (6, .ref (Z (5 + st))), (7, .int (iI ((rowLen st : Nat) : Int))), (8, .int (iI ((i : Nat) : Int)))]) S.1 S.2.1 dX5_stamp_105 hl (by decide) rfl (fun ls hl => ?_)
                  have lp107 : ∀ (fu : Nat) (k : Nat) (X : Nat) (Y : Nat), tn - k < fu → (k ≤ tn) → (X = (trX (stampsF st i).toNat k).1) → (Y = (trX (stampsF st i).toNat k).2) → ∀ (H : Heap) (locs : List Loc) (ls : Array Slot), va_P D vwCl [(mo, .inr (5, [.int (iI 0), .int (iI ((w : Nat) : Int)), .int (iI ((h : Nat) : Int)), .int (iI ((ms : Nat) : Int)), .int (iI ma), .int (iI ((n : Nat) : Int)), .ref mna, .ref mkp, .ref mot, .ref mlr, .ref mlk, .ref mwe, .ref mmk, .ref mln])), (mna, .inl (cI, 144, .inl (aI N))), (mkp, .inl (cI, 144, .inl (aI KP))), (mot, .inl (cI, 144, .inl (aI OT))), (mlr, .inl (cI, 20, .inl (aI LR))), (mlk, .inl (cI, 20, .inl (aI LK))), (mwe, .inl (cI, 13104, .inl (aI WE))), (mmk, .inl (cI, 144, .inl (aI MK))), (mln, .inl (cI, 144, .inl (aI LN)))] H → va_D A [(mo, .inr (5, [.int (iI 0), .int (iI ((w : Nat) : Int)), .int (iI ((h : Nat) : Int)), .int (iI ((ms : Nat) : Int)), .int (iI ma), .int (iI ((n : Nat) : Int)), .ref mna, .ref mkp, .ref mot, .ref mlr, .ref mlk, .ref mwe, .ref mmk, .ref mln])), (mna, .inl (cI, 144, .inl (aI N))), (mkp, .inl (cI, 144, .inl (aI KP))), (mot, .inl (cI, 144, .inl (aI OT))), (mlr, .inl (cI, 20, .inl (aI LR))), (mlk, .inl (cI, 20, .inl (aI LK))), (mwe, .inl (cI, 13104, .inl (aI WE))), (mmk, .inl (cI, 144, .inl (aI MK))), (mln, .inl (cI, 144, .inl (aI LN)))] → va_S A s.heap H locs → lv_has ls 14 [(0, .ref mo), (1, .int (iI ((st : Nat) : Int))), (2, .int (iI ((tn : Nat) : Int))), (3, .int (iI x)), (4, .int (iI y)), (5, .int mq), (6, .ref (Z (5 + st))), (7, .int (iI ((rowLen st : Nat) : Int))), (8, .int (iI ((i : Nat) : Int))), (9, .int (iI (stampsF st i))), (10, .int (iI ((X : Nat) : Int))), (11, .int (iI ((Y : Nat) : Int))), (12, .int (iI ((k : Nat) : Int)))] → W p l e (rmk 2 0 0 44) s m ([.ref mo, .int (iI ((st : Nat) : Int)), .int (iI ((tn : Nat) : Int)), .int (iI x), .int (iI y)] : List Value).toArray below meth c H locs 0 0 Q (F0 m 107 ls []) := by
                    intro fu
                    induction fu with
                    | zero => intro k X Y hmu; exact absurd hmu (Nat.not_lt_zero _)
                    | succ fu ih_lp107 =>
                      intro k X Y hmu hk hX hY H locs ls hP hD hS hl
                      refine lv_iload S.1 S.2.1 dX5_stamp_107 (lv_at hl 12 rfl) ?_
                      refine lv_iload_n S.1 S.2.1 dX5_stamp_109 rfl (lv_at hl 2 rfl) ?_
                      refine r_icmp_ge S (tgt := 133) dX5_stamp_110 (by decide) ⟨by omega, by omega⟩ ⟨by omega, by omega⟩ (fun c110 => ?_) (fun c110 => ?_)
                      · refine lv_iload S.1 S.2.1 dX5_stamp_133 (lv_at hl 5 rfl) ?_
                        refine r_iconst S dX5_stamp_135 ?_
                        refine r_iconst S dX5_stamp_136 ?_
                        refine lv_iload S.1 S.2.1 dX5_stamp_137 (lv_at hl 11 rfl) ?_
                        refine r_imul S dX5_stamp_139 (z := ((3 * Y : Nat) : Int)) (by omega) ?_
                        refine lv_iload S.1 S.2.1 dX5_stamp_140 (lv_at hl 10 rfl) ?_
                        refine r_iadd S dX5_stamp_142 (z := ((3 * Y + X : Nat) : Int)) (by omega) ?_
                        refine lv_ishl S.1 S.2.1 dX5_stamp_143 ?_
                        refine lv_ior S.1 S.2.1 dX5_stamp_144 ?_
                        refine lv_istore (lv' := [(5, .int (mq ||| ((iI 1) <<< ((iI ((3 * Y + X : Nat) : Int)) &&& 31)))), (0, .ref mo), (1, .int (iI ((st : Nat) : Int))), (2, .int (iI ((tn : Nat) : Int))), (3, .int (iI x)), (4, .int (iI y)), (6, .ref (Z (5 + st))), (7, .int (iI ((rowLen st : Nat) : Int))), (8, .int (iI ((i : Nat) : Int))), (9, .int (iI (stampsF st i))), (10, .int (iI ((X : Nat) : Int))), (11, .int (iI ((Y : Nat) : Int))), (12, .int (iI ((k : Nat) : Int)))]) S.1 S.2.1 dX5_stamp_145 hl (by decide) rfl (fun ls hl => ?_)
                        refine r_iinc S (z := ((i + 1 : Nat) : Int)) (k0 := 8) (lv' := [(8, .int (iI ((i + 1 : Nat) : Int))), (5, .int (mq ||| ((iI 1) <<< ((iI ((3 * Y + X : Nat) : Int)) &&& 31)))), (0, .ref mo), (1, .int (iI ((st : Nat) : Int))), (2, .int (iI ((tn : Nat) : Int))), (3, .int (iI x)), (4, .int (iI y)), (6, .ref (Z (5 + st))), (7, .int (iI ((rowLen st : Nat) : Int))), (9, .int (iI (stampsF st i))), (10, .int (iI ((X : Nat) : Int))), (11, .int (iI ((Y : Nat) : Int))), (12, .int (iI ((k : Nat) : Int)))]) dX5_stamp_147 hl rfl (by omega) (by decide) rfl (fun ls hl => ?_)
                        refine r_goto S (tgt := 78) dX5_stamp_150 (by decide) ?_
                        exact ih_lp78 (i + 1) (mq ||| ((iI 1) <<< ((iI ((3 * Y + X : Nat) : Int)) &&& 31))) (by omega) (by omega) (by rw [hmq, mskG, show trn (stampsF st i).toNat tn = 3 * Y + X by unfold trn; rw [← show k = tn by omega, ← hX, ← hY]; omega]) _ _ _ hP hD hS (lv_sub hl [2, 3, 4, 5, 6, 1, 7, 8, 0] rfl)
                      · refine r_iconst S dX5_stamp_113 ?_
                        refine lv_iload S.1 S.2.1 dX5_stamp_114 (lv_at hl 11 rfl) ?_
                        refine r_isub S dX5_stamp_116 (z := ((2 - Y : Nat) : Int)) (by have := trX_le (show (stampsF st i).toNat < 9 by omega) k; omega) ?_
                        refine lv_istore (lv' := [(13, .int (iI ((2 - Y : Nat) : Int))), (0, .ref mo), (1, .int (iI ((st : Nat) : Int))), (2, .int (iI ((tn : Nat) : Int))), (3, .int (iI x)), (4, .int (iI y)), (5, .int mq), (6, .ref (Z (5 + st))), (7, .int (iI ((rowLen st : Nat) : Int))), (8, .int (iI ((i : Nat) : Int))), (9, .int (iI (stampsF st i))), (10, .int (iI ((X : Nat) : Int))), (11, .int (iI ((Y : Nat) : Int))), (12, .int (iI ((k : Nat) : Int)))]) S.1 S.2.1 dX5_stamp_117 hl (by decide) rfl (fun ls hl => ?_)
                        refine lv_iload S.1 S.2.1 dX5_stamp_119 (lv_at hl 11 rfl) ?_
                        refine lv_istore (lv' := [(11, .int (iI ((X : Nat) : Int))), (13, .int (iI ((2 - Y : Nat) : Int))), (0, .ref mo), (1, .int (iI ((st : Nat) : Int))), (2, .int (iI ((tn : Nat) : Int))), (3, .int (iI x)), (4, .int (iI y)), (5, .int mq), (6, .ref (Z (5 + st))), (7, .int (iI ((rowLen st : Nat) : Int))), (8, .int (iI ((i : Nat) : Int))), (9, .int (iI (stampsF st i))), (10, .int (iI ((X : Nat) : Int))), (12, .int (iI ((k : Nat) : Int)))]) S.1 S.2.1 dX5_stamp_121 hl (by decide) rfl (fun ls hl => ?_)
                        refine lv_iload S.1 S.2.1 dX5_stamp_123 (lv_at hl 1 rfl) ?_
                        refine lv_istore (lv' := [(10, .int (iI ((2 - Y : Nat) : Int))), (11, .int (iI ((X : Nat) : Int))), (13, .int (iI ((2 - Y : Nat) : Int))), (0, .ref mo), (1, .int (iI ((st : Nat) : Int))), (2, .int (iI ((tn : Nat) : Int))), (3, .int (iI x)), (4, .int (iI y)), (5, .int mq), (6, .ref (Z (5 + st))), (7, .int (iI ((rowLen st : Nat) : Int))), (8, .int (iI ((i : Nat) : Int))), (9, .int (iI (stampsF st i))), (12, .int (iI ((k : Nat) : Int)))]) S.1 S.2.1 dX5_stamp_125 hl (by decide) rfl (fun ls hl => ?_)
                        refine r_iinc S (z := ((k + 1 : Nat) : Int)) (k0 := 13) (lv' := [(12, .int (iI ((k + 1 : Nat) : Int))), (10, .int (iI ((2 - Y : Nat) : Int))), (11, .int (iI ((X : Nat) : Int))), (13, .int (iI ((2 - Y : Nat) : Int))), (0, .ref mo), (1, .int (iI ((st : Nat) : Int))), (2, .int (iI ((tn : Nat) : Int))), (3, .int (iI x)), (4, .int (iI y)), (5, .int mq), (6, .ref (Z (5 + st))), (7, .int (iI ((rowLen st : Nat) : Int))), (8, .int (iI ((i : Nat) : Int))), (9, .int (iI (stampsF st i)))]) dX5_stamp_127 hl rfl (by omega) (by decide) rfl (fun ls hl => ?_)
                        refine r_goto S (tgt := 107) dX5_stamp_130 (by decide) ?_
                        exact ih_lp107 (k + 1) (2 - Y) X (by omega) (by omega) (by rw [hY]; rfl) (by rw [hX]; rfl) _ _ _ hP hD hS (lv_sub hl [4, 5, 6, 7, 8, 9, 10, 11, 12, 13, 1, 2, 0] rfl)
                  exact lp107 _ 0 ((stampsF st i).toNat % 3) ((stampsF st i).toNat / 3) (Nat.lt_succ_self _) (by omega) rfl rfl _ _ _ hP hD hS (lv_sub hl [4, 5, 6, 7, 8, 9, 10, 11, 12, 3, 2, 1, 0] rfl)
            exact lp78 _ 0 (iI 0) (Nat.lt_succ_self _) (by omega) rfl _ _ _ hP hD hS (lv_sub hl [4, 5, 6, 7, 8, 3, 2, 1, 0] rfl)
          · have hcd : cdStamp w h st0 tn0 x y = 1 := by unfold cdStamp; rw [if_neg (by omega)]
            refine lv_aload_n S.1 S.2.1 dX5_stamp_54 rfl (lv_at hl 0 rfl) ?_
            refine r_iconst S dX5_stamp_55 ?_
            refine k_i (wr := []) (va_runV (As := [.int (iI 1)]) (rest := []) S (mX5_fail l D cI cJ Z _ mo mna mkp mot mlr mlk mwe mmk mln 0 w h ms ma n N KP OT LR LK WE MK LN 1 ) (cwV 1 S.2.2.2.2 gX5_stamp_X5_fail rfl rfl rfl (by decide +kernel) ⟨Nat.le_of_ble_eq_true rfl, Nat.le_of_ble_eq_true rfl⟩) (preV_of hK hP hD hS hA hZ [0, 1, 2, 3, 4, 5, 6, 7, 8] (by decide) rfl 0 5 rfl rfl) rfl rfl hl.1 rfl (lv_room (Nat.le_of_ble_eq_true rfl)) dX5_stamp_56 ⟨Nat.le_of_ble_eq_true rfl, Nat.le_of_ble_eq_true rfl⟩) hP hD hS hA [0, 1, 2, 3, 4, 5, 6, 7, 8] [] rfl rfl (by decide) (by decide) [0, 1, 2, 3, 4, 5, 6, 7, 8] (by decide) (fun u => [(mo, .inr (5, [.int (iI 1), .int (iI ((w : Nat) : Int)), .int (iI ((h : Nat) : Int)), .int (iI ((ms : Nat) : Int)), .int (iI ma), .int (iI ((n : Nat) : Int)), .ref mna, .ref mkp, .ref mot, .ref mlr, .ref mlk, .ref mwe, .ref mmk, .ref mln])), (mna, .inl (cI, 144, .inl (aI N))), (mkp, .inl (cI, 144, .inl (aI KP))), (mot, .inl (cI, 144, .inl (aI OT))), (mlr, .inl (cI, 20, .inl (aI LR))), (mlk, .inl (cI, 20, .inl (aI LK))), (mwe, .inl (cI, 13104, .inl (aI WE))), (mmk, .inl (cI, 144, .inl (aI MK))), (mln, .inl (cI, 144, .inl (aI LN)))]) (fun u => rfl) (fun r u H locs hpo hP hD hS => ?_)
            obtain rfl := hpo
            subst hQ
            exact e_iret S hr hlk hS (Nat.le_of_ble_eq_true rfl) (Nat.le_of_ble_eq_true rfl) (u := (0, 1, N)) (⟨rfl, hcd.symm, fun q => absurd (hcd.symm.trans q) (by decide), fun _ => rfl⟩) (aft_of hK hP hD) dX5_stamp_59
