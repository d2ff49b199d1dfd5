def fillZ (F : Nat → Int) (v : Int) (n : Nat) : Nat → Int := fun k => if k < n then v else F k
theorem fillZ_in {F : Nat → Int} {v : Int} {n k : Nat} (h : k < n) : fillZ F v n k = v := if_pos h
theorem fillZ_out {F : Nat → Int} {v : Int} {n k : Nat} (h : n ≤ k) : fillZ F v n k = F k := if_neg (by omega)
theorem fillZ_0 (F : Nat → Int) (v : Int) : fillZ F v 0 = F := by
  funext k
  exact fillZ_out (Nat.zero_le k)
theorem fillZ_s (F : Nat → Int) (v : Int) (n : Nat) : upZ (fillZ F v n) n v = fillZ F v (n + 1) := by
  funext k
  by_cases h : k = n
  · subst h
    rw [upZ_s, fillZ_in (by omega)]
  · rw [upZ_n h]
    by_cases h2 : k < n
    · rw [fillZ_in h2, fillZ_in (by omega)]
    · rw [fillZ_out (by omega), fillZ_out (by omega)]
def cpyZ (F G : Nat → Int) (n : Nat) : Nat → Int := fun k => if k < n then F k else G k
theorem cpyZ_in {F G : Nat → Int} {n k : Nat} (h : k < n) : cpyZ F G n k = F k := if_pos h
theorem cpyZ_out {F G : Nat → Int} {n k : Nat} (h : n ≤ k) : cpyZ F G n k = G k := if_neg (by omega)
/-- .. from a place of the one to a place of the other -/
def cpyO (F G : Nat → Int) (a b n : Nat) : Nat → Int := fun k => if b ≤ k ∧ k < b + n then F (a + (k - b)) else G k
theorem aI_cpy (F G : Nat → Int) (a b n : Nat) : va_cpy (aI F) (aI G) a b n = aI (cpyO F G a b n) := by
  funext k
  show (if b ≤ k ∧ k < b + n then aI F (a + (k - b)) else aI G k) = iI (if b ≤ k ∧ k < b + n then F (a + (k - b)) else G k)
  by_cases h : b ≤ k ∧ k < b + n
  · rw [if_pos h, if_pos h]; rfl
  · rw [if_neg h, if_neg h]; rfl
theorem cpyO_0 (F G : Nat → Int) (n : Nat) : cpyO F G 0 0 n = cpyZ F G n := by
  funext k
  show (if 0 ≤ k ∧ k < 0 + n then F (0 + (k - 0)) else G k) = if k < n then F k else G k
  by_cases h : k < n
  · rw [if_pos h, if_pos ⟨Nat.zero_le _, by omega⟩, Nat.zero_add, Nat.sub_zero]
  · rw [if_neg h, if_neg (by omega)]
section LB
variable {p : Program} {l : Launch} {e : Env} {R : Room} {s : State} {m : MethodId} {args : Array Value} {below : List Frame} {meth : Method} {c : Code} {H : Heap} {locs : List Loc} {cells slots : Nat} {Q : State → Prop}
variable {cc : ByteArray} {pc nL : Nat} {ls : Array Slot} {rest : List Value} {Ts : List Cond} {own : String}
variable {D : va_G} {cl : List vw_C} {tys : List (ClassId × FieldType)} {ws : va_W} {A : Nat → Prop} {H0 : Heap} {a : Nat}
theorem r_max (S : CallFix p m c cc nL s args Ts own) {index : Nat} {a b z : Int} (hlink : Cond.methodLink own index Lib.Math.max.name ∈ Ts) (hstat : Cond.static Lib.Math.max.name ∈ Ts) (hini : Cond.initialized "java/lang/Math" ∈ Ts) (hcode : Cond.code Lib.Math.max.name Lib.Math.max.code 2 (some .int) ∈ Ts) (hsize : ls.size = nL) (hframes : 1 ≤ R.frames) (hlocals : (rest.map fun v => v.category).sum + 13 ≤ R.locals) (hc : cells ≤ R.cells) (hs : slots ≤ R.slots) (hd : decode cc pc = .ok (.invokestatic index, 3)) (ha : inR a) (hb : inR b) (hz : (if a < b then b else a) = z)
    (k : W p l e R s m args below meth c H locs cells slots Q (F0 m (pc + 3) ls (.int (iI z) :: rest))) : W p l e R s m args below meth c H locs cells slots Q (F0 m pc ls (.int (iI b) :: .int (iI a) :: rest)) :=
  va_mmax S.1 S.2.1 (by rw [hsize]; exact S.2.2.1) S.2.2.2.1 (S.2.2.2.2 _ hlink) (S.2.2.2.2 _ hstat) (S.2.2.2.2 _ hini) (S.2.2.2.2 _ hcode) hframes (by omega) hc hs hd (by
    have e1 : (if iI a < iI b then iI b else iI a) = iI z := by
      rw [← hz]
      by_cases q : a < b
      · rw [if_pos q, if_pos ((iI_lt ha hb).mpr q)]
      · rw [if_neg q, if_neg (fun x => q ((iI_lt ha hb).mp x))]
    rw [e1]
    exact k)
theorem r_abs (S : CallFix p m c cc nL s args Ts own) {index : Nat} {a z : Int} (hlink : Cond.methodLink own index Lib.Math.abs.name ∈ Ts) (hstat : Cond.static Lib.Math.abs.name ∈ Ts) (hini : Cond.initialized "java/lang/Math" ∈ Ts) (hcode : Cond.code Lib.Math.abs.name Lib.Math.abs.code 1 (some .int) ∈ Ts) (hsize : ls.size = nL) (hframes : 1 ≤ R.frames) (hlocals : (rest.map fun v => v.category).sum + 13 ≤ R.locals) (hc : cells ≤ R.cells) (hs : slots ≤ R.slots) (hd : decode cc pc = .ok (.invokestatic index, 3)) (ha : inR a) (hz : (if 0 ≤ a then a else 0 - a) = z)
    (k : W p l e R s m args below meth c H locs cells slots Q (F0 m (pc + 3) ls (.int (iI z) :: rest))) : W p l e R s m args below meth c H locs cells slots Q (F0 m pc ls (.int (iI a) :: rest)) :=
  va_mabs S.1 S.2.1 (by rw [hsize]; exact S.2.2.1) S.2.2.2.1 (S.2.2.2.2 _ hlink) (S.2.2.2.2 _ hstat) (S.2.2.2.2 _ hini) (S.2.2.2.2 _ hcode) hframes (by omega) hc hs hd (by
    have e1 : (if (0 : Int32) ≤ iI a then iI a else 0 - iI a) = iI z := by
      rw [← hz, iI_0]
      by_cases q : 0 ≤ a
      · rw [if_pos q, if_pos ((iI_le ⟨by decide, by decide⟩ ha).mpr q)]
      · rw [if_neg q, if_neg (fun x => q ((iI_le ⟨by decide, by decide⟩ ha).mp x)), iI_sub]
    rw [e1]
    exact k)
theorem r_cpy (S : CallFix p m c cc nL s args Ts own) {index : Nat} (hlink : Cond.methodLink own index arraycopyName ∈ Ts) (hnat : Cond.native arraycopyName ∈ Ts) (hstat : Cond.static arraycopyName ∈ Ts) (hini : Cond.initialized "java/lang/System" ∈ Ts) (hsize : ls.size = nL) (hK : va_K D cl tys s) (hP : va_P D cl ws H) (hD : va_D A ws) (hS : va_S A H0 H locs) (q0 q1 t0 : Nat) {a0 : Nat} {c0 : ClassId} {n0 n1 : Nat} {f g : Nat → Int} (ha0 : ws[q0]? = some (a0, .inl (c0, n0, .inl (aI f)))) (ha1 : ws[q1]? = some (a, .inl (c0, n1, .inl (aI g)))) (ht0 : tys[t0]? = some (c0, .int)) {zi zj zn : Int} (i j n : Nat) (hi : zi = (i : Int)) (hj : zj = (j : Int)) (hn : zn = (n : Int)) (h4 : i + n ≤ n0) (h5 : j + n ≤ n1) (h6 : n0 < 2147483648) (h7 : n1 < 2147483648) (hframes : 1 ≤ R.frames) (hlocals : (rest.map fun v => v.category).sum + (nativeFrameWords "java/lang/System" "arraycopy" 5 + 11) ≤ R.locals) (hd : decode cc pc = .ok (.invokestatic index, 3)) (ws1 : va_W) (hws : ws.set q1 (a, .inl (c0, n1, .inl (aI (cpyO f g i j n)))) = ws1)
    (kk : ∀ (H1 : Heap) (locs1 : List Loc), va_P D cl ws1 H1 → va_D A ws1 → va_S A H0 H1 locs1 → W p l e R s m args below meth c H1 locs1 cells slots Q (F0 m (pc + 3) ls (rest))) : W p l e R s m args below meth c H locs cells slots Q (F0 m pc ls (.int (iI zn) :: .int (iI zj) :: .ref a :: .int (iI zi) :: .ref a0 :: rest)) := by
  subst hi; subst hj; subst hn
  have e1 : (iI (i : Int)).toNatClampNeg = i := iI_cl rfl (by omega)
  have e2 : (iI (j : Int)).toNatClampNeg = j := iI_cl rfl (by omega)
  have e3 : (iI (n : Int)).toNatClampNeg = n := iI_cl rfl (by omega)
  have nn : ∀ q : Nat, q < 2147483648 → ¬ iI (q : Int) < 0 := fun q hq => nI_pos (by omega)
  exact va_copyi S.1 S.2.1 (by rw [hsize]; exact S.2.2.1) S.2.2.2.1 (S.2.2.2.2 _ hlink) (S.2.2.2.2 _ hnat) (S.2.2.2.2 _ hstat) (S.2.2.2.2 _ hini) hK hP hD hS q0 q1 t0 t0 ha0 ha1 ht0 ht0 rfl (nn i (by omega)) (nn j (by omega)) (nn n (by omega)) (by rw [e1, e3]; exact h4) (by rw [e2, e3]; exact h5) (fun _ _ => rfl) hframes hlocals hd (by rw [e1, e2, e3, aI_cpy, hws]; exact kk)
theorem r_newaI (S : CallFix p m c cc nL s args Ts own) {cA : ClassId} (t0 : Nat) (ht : tys[t0]? = some (cA, .int)) (harr : Cond.arrayClass .int ∈ Ts) (hK : va_K D cl tys s) (hP : va_P D cl ws H) (hD : va_D A ws) (hS : va_S A H0 H locs) (hA : ∀ q, H0.size ≤ q → A q) {zn : Int} (n : Nat) (hn : zn = (n : Int)) (hn2 : n < 65536) (hcells : cells + 1 ≤ R.cells) (hslots : slots + n ≤ R.slots) (hd : decode cc pc = .ok (.newarray .int, 2))
    (kk : ∀ (q : Nat) (H1 : Heap), va_P D cl (ws ++ [(q, .inl (cA, n, .inl (aI (fun _ => 0))))]) H1 → va_D A (ws ++ [(q, .inl (cA, n, .inl (aI (fun _ => 0))))]) → va_S A H0 H1 locs → W p l e R s m args below meth c H1 locs (cells + 1) (slots + n) Q (F0 m (pc + 2) ls (.ref q :: rest))) : W p l e R s m args below meth c H locs cells slots Q (F0 m pc ls (.int (iI zn) :: rest)) := by
  subst hn
  have e3 : (iI (n : Int)).toNatClampNeg = n := iI_cl rfl (by omega)
  refine va_newa (atype := .int) (ty := .int) (a0 := (n, .inl (aI (fun _ => 0)))) S.1 S.2.1 (S.2.2.2.2 _ harr) rfl hK hP hD hS hA (fun cB => rfl) (nI_pos (by omega)) e3 (by show n * 4 ≤ 536870912; omega) hcells hslots hd (fun q cB H1 hK1 hP1 hD1 hS1 => ?_)
  have e1 : cB = cA := by
    have g1 := (hK.2 t0 _ ht).2
    have g2 := (hK1.2 tys.length (cB, .int) (by simp)).2
    exact Option.some.inj (g2.symm.trans g1)
  subst e1
  exact kk q H1 hP1 hD1 hS1
theorem r_newaJ (S : CallFix p m c cc nL s args Ts own) {cA : ClassId} (t0 : Nat) (ht : tys[t0]? = some (cA, .long)) (harr : Cond.arrayClass .long ∈ Ts) (hK : va_K D cl tys s) (hP : va_P D cl ws H) (hD : va_D A ws) (hS : va_S A H0 H locs) (hA : ∀ q, H0.size ≤ q → A q) {zn : Int} (n : Nat) (hn : zn = (n : Int)) (hn2 : n < 65536) (hcells : cells + 1 ≤ R.cells) (hslots : slots + n ≤ R.slots) (hd : decode cc pc = .ok (.newarray .long, 2))
    (kk : ∀ (q : Nat) (H1 : Heap), va_P D cl (ws ++ [(q, .inl (cA, n, .inr (.inl (fun _ => (0 : Int64)))))]) H1 → va_D A (ws ++ [(q, .inl (cA, n, .inr (.inl (fun _ => (0 : Int64)))))]) → va_S A H0 H1 locs → W p l e R s m args below meth c H1 locs (cells + 1) (slots + n) Q (F0 m (pc + 2) ls (.ref q :: rest))) : W p l e R s m args below meth c H locs cells slots Q (F0 m pc ls (.int (iI zn) :: rest)) := by
  subst hn
  have e3 : (iI (n : Int)).toNatClampNeg = n := iI_cl rfl (by omega)
  refine va_newa (atype := .long) (ty := .long) (a0 := (n, .inr (.inl (fun _ => (0 : Int64))))) S.1 S.2.1 (S.2.2.2.2 _ harr) rfl hK hP hD hS hA (fun cB => rfl) (nI_pos (by omega)) e3 (by show n * 8 ≤ 536870912; omega) hcells hslots hd (fun q cB H1 hK1 hP1 hD1 hS1 => ?_)
  have e1 : cB = cA := by
    have g1 := (hK.2 t0 _ ht).2
    have g2 := (hK1.2 tys.length (cB, .long) (by simp)).2
    exact Option.some.inj (g2.symm.trans g1)
  subst e1
  exact kk q H1 hP1 hD1 hS1
end LB
