/-- a stamp's cell: offset 0 to 8 and kind -/
def put1 (x y : Int) (p : (Int → Int → Int) × Nat) (o : Nat × Int) : (Int → Int → Int) × Nat :=
  if p.1 (x + ((o.1 % 3 : Nat) : Int)) (y + ((o.1 / 3 : Nat) : Int)) = o.2 then p
  else (up2 p.1 (x + ((o.1 % 3 : Nat) : Int)) (y + ((o.1 / 3 : Nat) : Int)) o.2, p.2 + 1)
def putL (x y : Int) (p : (Int → Int → Int) × Nat) (l : List (Nat × Int)) : (Int → Int → Int) × Nat := l.foldl (put1 x y) p
theorem put1_swap (x y : Int) (p : (Int → Int → Int) × Nat) {a b : Nat × Int} (h : a.1 ≠ b.1) : put1 x y (put1 x y p a) b = put1 x y (put1 x y p b) a := by
  have hne : ¬ (x + ((a.1 % 3 : Nat) : Int) = x + ((b.1 % 3 : Nat) : Int) ∧ y + ((a.1 / 3 : Nat) : Int) = y + ((b.1 / 3 : Nat) : Int)) := by omega
  have hne2 : ¬ (x + ((b.1 % 3 : Nat) : Int) = x + ((a.1 % 3 : Nat) : Int) ∧ y + ((b.1 / 3 : Nat) : Int) = y + ((a.1 / 3 : Nat) : Int)) := by omega
  unfold put1
  generalize x + ((a.1 % 3 : Nat) : Int) = ax at *
  generalize y + ((a.1 / 3 : Nat) : Int) = ay at *
  generalize x + ((b.1 % 3 : Nat) : Int) = bx at *
  generalize y + ((b.1 / 3 : Nat) : Int) = by0 at *
  have e1 : ∀ v, up2 p.1 ax ay v bx by0 = p.1 bx by0 := fun v => up2_n (fun z => hne2 z)
  have e2 : ∀ v, up2 p.1 bx by0 v ax ay = p.1 ax ay := fun v => up2_n (fun z => hne z)
  have e3 : ∀ v v', up2 (up2 p.1 ax ay v) bx by0 v' = up2 (up2 p.1 bx by0 v') ax ay v := by
    intro v v'
    funext q r
    by_cases qa : q = ax ∧ r = ay
    · have qb : ¬ (q = bx ∧ r = by0) := fun z => hne ⟨qa.1 ▸ z.1, qa.2 ▸ z.2⟩
      simp [up2, qa, qb, hne]
    · simp [up2, qa]
  by_cases ha : p.1 ax ay = a.2
  · by_cases hb : p.1 bx by0 = b.2
    · simp [ha, hb]
    · simp [ha, hb, e2]
  · by_cases hb : p.1 bx by0 = b.2
    · simp [ha, hb, e1]
    · simp [ha, hb, e1, e2, e3]
theorem putL_perm (x y : Int) {l l' : List (Nat × Int)} (h : l.Perm l') : ∀ p : (Int → Int → Int) × Nat, (l.map Prod.fst).Nodup → putL x y p l = putL x y p l' := by
  induction h with
  | nil => exact fun _ _ => rfl
  | cons a _ ih => exact fun p hn => ih _ (List.nodup_cons.mp hn).2
  | swap a b l => 
    intro p hn
    show putL x y (put1 x y (put1 x y p b) a) l = putL x y (put1 x y (put1 x y p a) b) l
    rw [put1_swap x y p (a := b) (b := a) (fun q => (List.nodup_cons.mp hn).1 (by simp [q]))]
  | trans h1 _ ih1 ih2 => exact fun p hn => (ih1 p hn).trans (ih2 p ((h1.map Prod.fst).nodup_iff.mp hn))
/-- the kind that the reference finds for offset k -/
def kdS (st tn k : Nat) : Int := stampedF (st * 9 + trn k ((4 - tn) % 4))
def stmL (st tn n : Nat) : List (Nat × Int) := (List.range n).map fun k => (k, kdS st tn k)
def stcL (st tn n : Nat) : List (Nat × Int) := (List.range n).map fun i => (trn i tn, stampedF (st * 9 + i))
theorem stcG_L (g : Int → Int → Int) (st tn : Nat) (x y : Int) : ∀ n, stcG g st tn x y n = putL x y (g, 0) (stcL st tn n)
  | 0 => rfl
  | n + 1 => by
    rw [stcL, List.range_succ, List.map_append, putL, List.foldl_append]
    show stcG g st tn x y (n + 1) = put1 x y (putL x y (g, 0) (stcL st tn n)) (trn n tn, stampedF (st * 9 + n))
    rw [← stcG_L g st tn x y n, stcG]
    rfl
def stmG (g : Int → Int → Int) (st tn : Nat) (x y : Int) (n : Nat) : (Int → Int → Int) × Nat := putL x y (g, 0) (stmL st tn n)
theorem stmG_succ (g : Int → Int → Int) (st tn : Nat) (x y : Int) (n : Nat) : stmG g st tn x y (n + 1) = put1 x y (stmG g st tn x y n) (n, kdS st tn n) := by
  rw [stmG, stmL, List.range_succ, List.map_append, putL, List.foldl_append]
  rfl
theorem stm_stc (g : Int → Int → Int) {st tn : Nat} (hs : st < 4) (ht : tn < 4) (x y : Int) : stmG g st tn x y 9 = stcG g st tn x y 9 := by
  rw [stcG_L, stmG]
  have h1 : ∀ st, st < 4 → ∀ tn, tn < 4 → (stmL st tn 9).isPerm (stcL st tn 9) = true := by decide +kernel
  have h2 : ∀ st, st < 4 → ∀ tn, tn < 4 → ((stmL st tn 9).map Prod.fst).Nodup := by decide +kernel
  exact putL_perm x y (List.isPerm_iff.mp (h1 st hs tn ht)) (g, 0) (h2 st hs tn ht)
/-- the reference's mask of copper -/
def mskG (st tn : Nat) : Nat → Int32
  | 0 => iI 0
  | i + 1 => mskG st tn i ||| ((iI 1) <<< ((iI ((trn (stampsF st i).toNat tn : Nat) : Int)) &&& 31))
theorem msk_kd : ∀ st, st < 4 → ∀ tn, tn < 4 → ∀ k, k < 9 → (((mskG st tn (rowLen st)) >>> ((iI ((k : Nat) : Int)) &&& 31)) &&& (iI 1)) = iI (kdS st tn k) := by decide +kernel
theorem stampsF_rng : ∀ st, st < 4 → ∀ i, i < rowLen st → 0 ≤ stampsF st i ∧ stampsF st i ≤ 8 := by decide +kernel
theorem rowLen_rng (st : Nat) : 3 ≤ rowLen st ∧ rowLen st ≤ 4 := by
  match st with
  | 0 => decide
  | 1 => decide
  | 2 => decide
  | _ + 3 => exact ⟨(by decide : 3 ≤ 4), (by decide : 4 ≤ 4)⟩
theorem kdS_rng (st tn k : Nat) : 0 ≤ kdS st tn k ∧ kdS st tn k ≤ 1 := stampedF_rng _

theorem r_taa {p : Program} {l : Launch} {e : Env} {R : Room} {s : State} {m : MethodId} {args : Array Value} {below : List Frame} {meth : Method} {c : Code} {H : Heap} {locs : List Loc} {cells slots : Nat} {Q : State → Prop} {cc : ByteArray} {nL pc : Nat} {Ts : List Cond} {own : String} {ls : Array Slot} {rest : List Value} {A : Nat → Prop} (S : CallFix p m c cc nL s args Ts own) {t N : Nat} {f : Nat → Value} (hT : va_T (.array .int) t N f A s s.heap) (hS : va_S A s.heap H locs) {i : Int} (j : Nat) (hj : i = (j : Int)) (hlt : j < N) (hn : N < 2147483648) (hd : decode cc pc = .ok (.aaload, 1))
    (kk : W p l e R s m args below meth c H locs cells slots Q (F0 m (pc + 1) ls (f j :: rest))) : W p l e R s m args below meth c H locs cells slots Q (F0 m pc ls (.int (iI i) :: .ref t :: rest)) := by
  have hin : vp_in (iI i) N := iI_in hj hlt hn
  have hv : f (iI i).toNatClampNeg = f j := by rw [iI_cl hj (by omega)]
  obtain ⟨cell, h1, h2, h3, h4, h5, h6, h7⟩ := hT
  have hl2 : (iI i).toNatClampNeg < N := Nat.not_le.mp fun q => hin (Or.inr q)
  have hin2 : ¬ (iI i < 0 ∨ cell.slots.size ≤ (iI i).toNatClampNeg) := by
    intro q
    rcases q with q | q
    · exact hin (Or.inl q)
    · omega
  exact W.aald (v := f j) (ty := .array .int) S.1 S.2.1 (by rw [hS.2.1 t (Array.getElem?_eq_some_iff.mp h1).1 h7]; exact h1) h2 rfl h3 hin2 (by rw [h6 _ hl2, hv]) rfl rfl hd kk
