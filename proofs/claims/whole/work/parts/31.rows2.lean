/-- a method with a table of its own, that doesn't throw -/
theorem m_ofh {l : Launch} {y : MethodName} {ws ws' : List Cond} {rm : Room} {Qc : (Nat → Prop) → Array Value → State → Outcome → State → Prop} {mc ms maxL : Nat} {cc : ByteArray} {ret : Option FieldType} {hh : List (Nat × Nat × Nat × Nat)} {D : va_G} {tys : List (ClassId × FieldType)} {Z : Nat → Nat} {wc : va_W} {sz : Nat} {av : List Value} (own : String) (lv : List (Nat × Value))
    (hy : plainName y.cls = true) (ho : y.cls = own) (hw : ws = Cond.codeWith y cc maxL ret hh :: ws') (hlen : (lg_sl av).length ≤ maxL) (hlv : lv_args 0 av = lv)
    (body : ∀ (p : Program) (e : Env) (s : State) (m : MethodId) (below : List Frame) (meth : Method) (c : Code) (A : Nat → Prop) (ls : Array Slot) (Q : State → Prop), CallFix p m c cc maxL s av.toArray ws own → meth.sig.returnType = ret → meth.locks = false → c.exceptionTable.toList = tableOf hh → A = va_A wc sz → s.heap.size = sz → va_P D vwCl wc s.heap → va_K D vwCl tys s → va_D A wc → (∀ q, s.heap.size ≤ q → A q) → Stat Z A s s.heap → va_S A s.heap s.heap [] → lv_has ls maxL lv → Q = MQ below (Qc A) av.toArray s mc ms A →
      W p l e rm s m av.toArray below meth c s.heap [] 0 0 Q (F0 m 0 ls [])) : Met l y ws rm (va_Pc av (preW D tys Z wc sz)) (Qc (va_A wc sz)) mc ms (va_A wc sz) := by
  refine va_MetW (cc := cc) (maxL := maxL) (ret := ret) (hh := hh) hy hw ?_
  intro p e s m args below meth c s₁ B hml hv
  obtain ⟨rfl, hsz, hP, hK, hD0, hZ⟩ := hv
  have hts := atoms_spec (ws := ws) B.pre
  have hown : s.vm.findClass own = some m.cls := ho ▸ findClass_of_methodNamed B.named
  have htab := vx_table (x := y) B (hts _ (by rw [hw]; exact List.mem_cons_self))
  have hl := lv_entry av (n := maxL) hlen
  rw [lg_entry_eq]
  rw [hlv] at hl
  exact body p e s m below meth c _ _ _ ⟨B.exec, B.bytes, hml, hown, hts⟩ B.returns B.notSynchronized htab rfl hsz hP hK hD0.self (fun q h => Or.inr (by omega)) hZ va_S.rf hl rfl
section E2
variable {p : Program} {l : Launch} {e : Env} {R : Room} {s : State} {m : MethodId} {args : Array Value} {below : List Frame} {meth : Method} {c : Code} {H : Heap} {locs : List Loc} {cells slots : Nat} {Q : State → Prop}
variable {cc : ByteArray} {pc nL : Nat} {ls : Array Slot} {rest : List Value} {Ts : List Cond} {own : String} {A : Nat → Prop}
theorem e_dret (S : CallFix p m c cc nL s args Ts own) {σ : Type} {post : UInt64 → σ → Prop} {B : σ → State → Prop} {z : UInt64} {mc ms : Nat} (hr : meth.sig.returnType = some .double) (hlk : meth.locks = false) (hS : va_S A s.heap H locs) (hc : cells ≤ mc) (hs : slots ≤ ms) (u : σ) (hp : post z u) (hB : ∀ t : State, t.heap = H → s.WarmedH t.vm → B u t) (hd : decode cc pc = .ok (.dreturn, 1)) : W p l e R s m args below meth c H locs cells slots (MQ below (va_Qd post B A) args s mc ms A) (F0 m pc ls [.double z]) :=
  W.widen hc hs (W.dret S.1 S.2.1 hr (fun t ht hW => ⟨⟨z, u, rfl, hp, hB t ht hW⟩, hS.F ht⟩) hS.2.2 hd hlk)
variable {D : va_G} {tys : List (ClassId × FieldType)} {Z : Nat → Nat} {ws : va_W}
theorem k_d {σ : Type} {post : UInt64 → σ → Prop} {w1 : σ → va_W} {wc wr : va_W} {a : Array Value} {st0 : List Value} {mc ms : Nat} (hr : va_Run p l e R s m args below meth c H locs cells slots mc ms (F0 m pc ls st0) rest (va_Qd post (fun u t => aftW D tys (w1 u) (va_A wc H.size) t) (va_A wc H.size) a) (va_A wc H.size))
    (hP : va_P D vwCl ws H) (hD : va_D A ws) (hS : va_S A s.heap H locs) (hA : ∀ q, s.heap.size ≤ q → A q) (isC isR : List Nat) (hC : isC.map (fun i => ws[i]?) = wc.map some) (hR : isR.map (fun i => ws[i]?) = wr.map some) (hn : va_nd isR = true) (hdis : ∀ i ∈ isR, i ∉ isC) (perm : List Nat) (hnp : va_nd perm = true) (w2 : σ → va_W) (hp : ∀ u, perm.map (fun i => (wr ++ w1 u)[i]?) = (w2 u).map some)
    (kk : ∀ (r : UInt64) (u : σ) (H1 : Heap) (locs1 : List Loc), post r u → va_P D vwCl (w2 u) H1 → va_D A (w2 u) → va_S A s.heap H1 locs1 → W p l e R s m args below meth c H1 locs1 (cells + mc) (slots + ms) Q (F0 m (pc + 3) ls (.double r :: rest))) : W p l e R s m args below meth c H locs cells slots Q (F0 m pc ls st0) := by
  have hF := va_free hD hS hA isC hC
  refine va_calld hr hS (fun q _ h => hF q h) hF (fun r u t H1 locs1 ht hvm hw hB hz1 hk1 hS1 => ?_)
  obtain ⟨hP1, hK1, hD1⟩ := hB
  rw [ht] at hP1
  obtain ⟨hP2, hD2⟩ := va_join hP hD isC isR hC hR hn hdis hk1 hF hP1 hD1
  refine kk r u H1 locs1 hw ?_ (hD2.sub perm hnp (hp u)) hS1
  refine hP2.sub perm ?_
  have h1 : perm.filterMap (fun i => (wr ++ w1 u)[i]?) = (perm.map (fun i => (wr ++ w1 u)[i]?)).filterMap id := by rw [List.filterMap_map]; rfl
  rw [h1, hp u, List.filterMap_map]
  exact List.filterMap_some
/-- a call that answers an int or throws -/
theorem k_xi {σ : Type} {post : Int32 → σ → Prop} {cond : String → Prop} {w1 : σ → va_W} {wc wr : va_W} {a : Array Value} {st0 : List Value} {mc ms : Nat} (hr : vx_Run p l e R s m args below meth c H locs cells slots mc ms (F0 m pc ls st0) rest (va_Qi post (fun u t => aftW D tys (w1 u) (va_A wc H.size) t) (va_A wc H.size) a) (vx_X (fun (_ : Unit) => True) (fun (E : String) (_ : Unit) t => cond E ∧ aftW D tys wc (va_A wc H.size) t) (va_A wc H.size)) (va_A wc H.size))
    (hP : va_P D vwCl ws H) (hD : va_D A ws) (hS : va_S A s.heap H locs) (hA : ∀ q, s.heap.size ≤ q → A q) (isC isR : List Nat) (hC : isC.map (fun i => ws[i]?) = wc.map some) (hR : isR.map (fun i => ws[i]?) = wr.map some) (hn : va_nd isR = true) (hdis : ∀ i ∈ isR, i ∉ isC) (perm : List Nat) (hnp : va_nd perm = true) (w2 : σ → va_W) (hp : ∀ u, perm.map (fun i => (wr ++ w1 u)[i]?) = (w2 u).map some) (permX : List Nat) (hnx : va_nd permX = true) (hpx : permX.map (fun i => (wr ++ wc)[i]?) = ws.map some)
    (kx : ∀ (E : String) (ce : Cell) (q9 : Addr) (H1 : Heap) (locs1 : List Loc), cond E → va_P D vwCl ws H1 → va_D A ws → va_S A s.heap H1 locs1 → H1[q9]? = some ce → ce.vm = .none → s.vm.findClass E = some ce.cls → vx_W p l e R s m args below meth c H1 locs1 (cells + mc) (slots + ms) Q (F0 m pc ls rest) q9)
    (kk : ∀ (r : Int32) (u : σ) (H1 : Heap) (locs1 : List Loc), post r u → va_P D vwCl (w2 u) H1 → va_D A (w2 u) → va_S A s.heap H1 locs1 → W p l e R s m args below meth c H1 locs1 (cells + mc) (slots + ms) Q (F0 m (pc + 3) ls (.int r :: rest))) : W p l e R s m args below meth c H locs cells slots Q (F0 m pc ls st0) := by
  have hF := va_free hD hS hA isC hC
  refine vx_calli hr hS (fun q _ h => hF q h) hF (fun q _ h => hF q h) (fun E ce q9 _ t H1 locs1 ht hvm _ hB hz1 hk1 hS1 hce hcv hcl => ?_) (fun r u t H1 locs1 ht hvm hw hB hz1 hk1 hS1 => ?_)
  · obtain ⟨hc0, hP1, hK1, hD1⟩ := hB
    rw [ht] at hP1
    obtain ⟨hP2, hD2⟩ := va_join hP hD isC isR hC hR hn hdis hk1 hF hP1 hD1
    refine kx E ce q9 H1 locs1 hc0 ?_ (hD2.sub permX hnx hpx) hS1 hce hcv hcl
    refine hP2.sub permX ?_
    have h1 : permX.filterMap (fun i => (wr ++ wc)[i]?) = (permX.map (fun i => (wr ++ wc)[i]?)).filterMap id := by rw [List.filterMap_map]; rfl
    rw [h1, hpx, List.filterMap_map]
    exact List.filterMap_some
  · obtain ⟨hP1, hK1, hD1⟩ := hB
    rw [ht] at hP1
    obtain ⟨hP2, hD2⟩ := va_join hP hD isC isR hC hR hn hdis hk1 hF hP1 hD1
    refine kk r u H1 locs1 hw ?_ (hD2.sub perm hnp (hp u)) hS1
    refine hP2.sub perm ?_
    have h1 : perm.filterMap (fun i => (wr ++ w1 u)[i]?) = (perm.map (fun i => (wr ++ w1 u)[i]?)).filterMap id := by rw [List.filterMap_map]; rfl
    rw [h1, hp u, List.filterMap_map]
    exact List.filterMap_some
/-- the script's places -/
theorem r_sld (S : CallFix p m c cc nL s args Ts own) {scr L : Nat} {xs : Nat → Int32} (hX : va_X scr L xs s s.heap) (hbl : scr < s.heap.size) (hbA : ¬ A scr) (hS : va_S A s.heap H locs) {i z : Int} (j : Nat) (hj : i = (j : Int)) (hlt : j < L) (hn : L < 2147483648) (hz : xs j = iI z) (hd : decode cc pc = .ok (.iaload, 1))
    (kk : W p l e R s m args below meth c H locs cells slots Q (F0 m (pc + 1) ls (.int (iI z) :: rest))) : W p l e R s m args below meth c H locs cells slots Q (F0 m pc ls (.int (iI i) :: .ref scr :: rest)) := va_sld S.1 S.2.1 hX hbl hbA hS (iI_in hj hlt hn) hd (by rw [iI_cl hj (by omega), hz]; exact kk)
end E2
/-- the mean of heads behind steps that went by -/
def meanG (sg : Nat) (hz : Int) : UInt64 := if sg = 0 then FP.dconst0 else FP.ddiv (FP.l2d (lI hz)) (FP.i2d (iI (sg : Int)))
theorem mean_n {sg : Nat} {hz : Int} (h : sg ≠ 0) (hs : sg < 2147483648) : vf_n64 (FP.ddiv (FP.l2d (lI hz)) (FP.i2d (iI (sg : Int)))) := by
  have hne : iI (sg : Int) ≠ 0 := by
    rw [iI_0]
    intro q
    have := (iI_eq (a := (sg : Int)) (b := 0) ⟨by omega, by omega⟩ ⟨by decide, by decide⟩).mp q
    omega
  have h1 : FP.Core.dIsNaN (FP.Core.ddiv (FP.Core.l2d (lI hz)) (FP.Core.i2d (iI (sg : Int)))) = false :=
    FP.Core.ddiv_out (FP.Core.l2d_notNaN _) (FP.Core.i2d_fin _) (fun z => FP.Core.i2d_ne_zero hne ((FP.Core.zero_bits2 _).mp z))
  have h2 : FP.Core.dIsNaN (FP.ddiv (FP.l2d (lI hz)) (FP.i2d (iI (sg : Int)))) = false := h1
  generalize FP.ddiv (FP.l2d (lI hz)) (FP.i2d (iI (sg : Int))) = x at h2
  rw [← Bool.not_eq_true, FP.Core.isNaN_bits] at h2
  unfold vf_n64
  rw [UInt64.le_iff_toNat_le, UInt64.toNat_and]
  have k1 : (0x7fffffffffffffff : UInt64).toNat = 2 ^ 63 - 1 := by decide
  have k2 : (0x7ff0000000000000 : UInt64).toNat = 9218868437227405312 := by decide
  rw [k1, k2, Nat.and_two_pow_sub_one_eq_mod]
  omega
theorem mean_l {a : Int} (h : inR a) : FP.i2d (iI a) = FP.l2d (lI a) := by
  rw [← iI_l h]
  exact FP.Core.i2d_l2d (iI a)
