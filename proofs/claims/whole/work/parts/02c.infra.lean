def dX : Nat → Int := fun d => match d with | 0 => 1 | 1 => 1 | 2 => 0 | 3 => -1 | 4 => -1 | 5 => -1 | 6 => 0 | _ => 1
def dY : Nat → Int := fun d => match d with | 0 => 0 | 1 => 1 | 2 => 1 | 3 => 1 | 4 => 0 | 5 => -1 | 6 => -1 | _ => -1
def stampedL : List Int := [0, 0, 0, 1, 1, 1, 0, 0, 0, 0, 1, 0, 1, 0, 1, 0, 1, 0, 0, 1, 0, 1, 1, 0, 0, 1, 0, 1, 0, 0, 0, 1, 1, 1, 0, 0]
def stampedF (j : Nat) : Int := stampedL.getD j 0
def stepF (j : Nat) : Int := dX j + 12 * dY j
def stampsL (j : Nat) : List Int := match j with | 0 => [3, 4, 5] | 1 => [3, 1, 7, 5] | 2 => [3, 1, 4, 7] | _ => [0, 6, 4, 5]
def rowLen (j : Nat) : Nat := (stampsL j).length
def stampsF (j k : Nat) : Int := (stampsL j).getD k 0
/-- the texts of the class's exceptions, by their places -/
def strTab : List (Nat × String) := [(56, "a board has 3 to 10 columns and rows"), (76, "no such cell"), (79, "a kind is 0 to 3"), (93, "not in one row, column or diagonal"), (106, "a ring has 3 columns and rows at least"), (112, "the ring goes beyond the edge"), (114, "a stamp and its turns are 0 to 3"), (116, "the stamp goes beyond the edge"), (125, "no such cell or direction"), (135, "a spark needs copper for its head and its tail"), (143, "there are 5 lamps"), (148, "1 to 100 steps go by"), (157, "no such cell, or nothing such is told"), (172, "no such lamp, or nothing such is told about it"), (186, "nothing such is counted"), (208, "nothing such is told of a period"), (221, "1 to 100 steps are foreseen"), (223, "nothing such is foreseen"), (228, "advice looks 1 to 4 steps ahead")]
/-- the static fields' links, which the printed word lists leave out -/
def exTab : List Cond := [.fieldLink "SparkBoards" 121 "SparkBoards" "STAMPED" "[I", .fieldLink "SparkBoards" 127 "SparkBoards" "RIGHT" "[I", .fieldLink "SparkBoards" 130 "SparkBoards" "DOWN" "[I", .fieldLink "SparkBoardsModel" 52 "SparkBoardsModel" "STEP" "[I", .fieldLink "SparkBoardsModel" 94 "SparkBoardsModel" "STAMPS" "[[I"]
theorem exTab_good : GoodIn exTab exTab := goodIn_sub (fun _ h => h) (by decide +kernel)
def exNest : List (String × Nat × String × String × String × String) := [("SparkBoards$Board", 57, "SparkBoards", "RIGHT", "[I", "SparkBoards"), ("SparkBoards$Board", 60, "SparkBoards", "DOWN", "[I", "SparkBoards"), ("SparkBoards$Wires", 64, "SparkBoards", "RIGHT", "[I", "SparkBoards"), ("SparkBoards$Wires", 67, "SparkBoards", "DOWN", "[I", "SparkBoards")]
abbrev nestW (q : String × Nat × String × String × String × String) : Cond := .fieldLinkNest q.1 q.2.1 q.2.2.1 q.2.2.2.1 q.2.2.2.2.1 q.2.2.2.2.2
def castTab : List String := ["java/lang/IllegalArgumentException", "java/lang/IndexOutOfBoundsException", "java/lang/IllegalStateException"]
def ncTab : List (String × String) := [("java/lang/IllegalArgumentException", "java/lang/IndexOutOfBoundsException"), ("java/lang/IndexOutOfBoundsException", "java/lang/IllegalArgumentException"), ("java/lang/IllegalStateException", "java/lang/IndexOutOfBoundsException")]
def declTab : List MethodName := [⟨"java/lang/RuntimeException", "<init>", "(Ljava/lang/String;)V"⟩, ⟨"java/lang/Exception", "<init>", "(Ljava/lang/String;)V"⟩, ⟨"java/lang/Throwable", "<init>", "(Ljava/lang/String;)V"⟩]
/-- what is given of statics and texts at a method's entry, kept as long as nothing outside A is changed -/
def Stat (Z : Nat → Nat) (A : Nat → Prop) (U : State) (H : Heap) : Prop :=
  (va_Z "SparkBoards" "RIGHT" "[I" (.ref (Z 0)) A U H ∧ va_T .int (Z 0) 8 (fun j => .int (iI (dX j))) A U H) ∧
  (va_Z "SparkBoards" "DOWN" "[I" (.ref (Z 1)) A U H ∧ va_T .int (Z 1) 8 (fun j => .int (iI (dY j))) A U H) ∧
  (va_Z "SparkBoards" "STAMPED" "[I" (.ref (Z 2)) A U H ∧ va_T .int (Z 2) 36 (fun j => .int (iI (stampedF j))) A U H) ∧
  (va_Z "SparkBoardsModel" "STEP" "[I" (.ref (Z 3)) A U H ∧ va_T .int (Z 3) 8 (fun j => .int (iI (stepF j))) A U H) ∧
  (va_Z "SparkBoardsModel" "STAMPS" "[[I" (.ref (Z 4)) A U H ∧ va_T (.array .int) (Z 4) 4 (fun j => .ref (Z (5 + j))) A U H ∧ ∀ j, j < 4 → va_T .int (Z (5 + j)) (rowLen j) (fun k => .int (iI (stampsF j k))) A U H) ∧
  (vx_Zq Bundle.tN "UNASSIGNED_STACK" Bundle.steD A U H ∧ vx_Zq Bundle.tN "SUPPRESSED_SENTINEL" Bundle.listD A U H) ∧
  (∀ q ∈ strTab, ∃ sa, vk_R RX4 q.1 q.2 sa U) ∧ (∀ w ∈ exTab, w.before #[] U = true) ∧ (∀ q ∈ exNest, va_Nw (nestW q) U) ∧ (∀ q ∈ castTab, va_Nw (.castable q q) U) ∧ (∀ q ∈ ncTab, va_Nc q.1 q.2 U) ∧ ∀ q ∈ declTab, va_Nw (.declares q) U
theorem Stat.give {Z : Nat → Nat} {A A1 : Nat → Prop} {s U : State} {H : Heap} {locs : List Loc} (h : Stat Z A s s.heap) (hS : va_S A s.heap H locs) (hA : ∀ q, A1 q → A q) (hU : U.heap = H) (hW : s.WarmedH U.vm) : Stat Z A1 U U.heap := by
  obtain ⟨⟨a0, b0⟩, ⟨a1, b1⟩, ⟨a2, b2⟩, ⟨a3, b3⟩, ⟨a4, b4, c4⟩, ⟨a5, b5⟩, h6, h7, h8, h9, h10, h11⟩ := h
  subst hU
  have hq := hS.2.1
  refine ⟨⟨((a0.moved hW.alike).kept hq).narrow hA, ((b0.moved hW.alike).kept hq).narrow hA⟩, ⟨((a1.moved hW.alike).kept hq).narrow hA, ((b1.moved hW.alike).kept hq).narrow hA⟩, ⟨((a2.moved hW.alike).kept hq).narrow hA, ((b2.moved hW.alike).kept hq).narrow hA⟩, ⟨((a3.moved hW.alike).kept hq).narrow hA, ((b3.moved hW.alike).kept hq).narrow hA⟩, ⟨((a4.moved hW.alike).kept hq).narrow hA, ((b4.moved hW.alike).kept hq).narrow hA, fun j hj => (((c4 j hj).moved hW.alike).kept hq).narrow hA⟩, ⟨((a5.moved hW.alike).kept hq).narrow hA, ((b5.moved hW.alike).kept hq).narrow hA⟩, fun q hm => ?_, fun w hw => pay_in h7 exTab_good w hw _ _ hW, fun q hq => va_Nw.warmF hW (h8 q hq), fun q hq => va_Nw.warmC hW (h9 q hq), fun q hq => va_Nc.moved hW.alike (h10 q hq), fun q hq => va_Nw.warmD hW (h11 q hq)⟩
  obtain ⟨sa, hs⟩ := h6 q hm
  exact ⟨sa, hs.warm hW⟩
theorem Stat.calling {Z : Nat → Nat} {A : Nat → Prop} {U : State} (h : Stat Z A U U.heap) (g : JFrame) (mk : MethodId) (a : Array Value) : Stat Z A (U.calling g mk a) (U.calling g mk a).heap := by
  obtain ⟨⟨a0, b0⟩, ⟨a1, b1⟩, ⟨a2, b2⟩, ⟨a3, b3⟩, ⟨a4, b4, c4⟩, ⟨a5, b5⟩, h6, h7, h8, h9, h10, h11⟩ := h
  have hv : U.vm.Alike (U.calling g mk a).vm := Vm.Alike.refl U.vm
  show Stat Z A (U.calling g mk a) U.heap
  refine ⟨⟨a0.moved hv, b0.moved hv⟩, ⟨a1.moved hv, b1.moved hv⟩, ⟨a2.moved hv, b2.moved hv⟩, ⟨a3.moved hv, b3.moved hv⟩, ⟨a4.moved hv, b4.moved hv, fun j hj => (c4 j hj).moved hv⟩, ⟨a5.moved hv, b5.moved hv⟩, fun q hm => ?_, fun w hw => pay_in h7 exTab_good w hw _ _ (State.WarmedH.refl U), fun q hq => va_Nw.warmF (State.WarmedH.refl U) (h8 q hq), fun q hq => va_Nw.warmC (State.WarmedH.refl U) (h9 q hq), fun q hq => va_Nc.moved hv (h10 q hq), fun q hq => va_Nw.warmD (State.WarmedH.refl U) (h11 q hq)⟩
  obtain ⟨sa, hs⟩ := h6 q hm
  exact ⟨sa, vk_R.same (by rfl) hs⟩
theorem Stat.word {Z : Nat → Nat} {A : Nat → Prop} {s : State} {H : Heap} (h : Stat Z A s H) {w : Cond} (hw : w ∈ exTab) (args : Array Value) : w.before args s = true := pay_in h.2.2.2.2.2.2.2.1 exTab_good w hw _ _ (State.WarmedH.refl s)
theorem Stat.nest {Z : Nat → Nat} {A : Nat → Prop} {s : State} {H : Heap} (h : Stat Z A s H) (q : String × Nat × String × String × String × String) (hw : q ∈ exNest) (args : Array Value) : (nestW q).before args s = true := va_Nw.use rfl (h.2.2.2.2.2.2.2.2.1 q hw)
/-- the world that a method is given, and the one that it leaves -/
abbrev preW (D : va_G) (tys : List (ClassId × FieldType)) (Z : Nat → Nat) (ws : va_W) (sz : Nat) : State → Prop := fun U => U.heap.size = sz ∧ va_P D vwCl ws U.heap ∧ va_K D vwCl tys U ∧ va_D (fun _ => True) ws ∧ Stat Z (va_A ws sz) U U.heap
abbrev aftW (D : va_G) (tys : List (ClassId × FieldType)) (ws : va_W) (A : Nat → Prop) : State → Prop := fun t => va_P D vwCl ws t.heap ∧ va_K D vwCl tys t ∧ va_D A ws
abbrev rmk (f c s l : Nat) : Room := { frames := f, cells := c, slots := s, locals := l }
theorem pre_blind {D : va_G} {tys : List (ClassId × FieldType)} {Z : Nat → Nat} {ws : va_W} {sz : Nat} {av : List Value} : FrameBlind (va_Pc av (preW D tys Z ws sz)) := by
  intro a U g mk h
  obtain ⟨q0, q1, qP, qK, qD, qZ⟩ := h
  exact ⟨q0, q1, qP, va_K.moved (u := U) (U := U.calling g mk a) (Vm.Alike.refl U.vm) qK, qD, qZ.calling g mk a⟩
/-- a method's contract, from its walk -/
theorem m_of {l : Launch} {y : MethodName} {ws ws' : List Cond} {rm : Room} {Qc : (Nat → Prop) → Array Value → State → Outcome → State → Prop} {mc ms maxL : Nat} {cc : ByteArray} {ret : Option FieldType} {D : va_G} {tys : List (ClassId × FieldType)} {Z : Nat → Nat} {wc : va_W} {sz : Nat} {av : List Value} (own : String) (lv : List (Nat × Value))
    (hy : plainName y.cls = true) (ho : y.cls = own) (hw : ws = Cond.code y cc maxL ret :: ws') (hlen : (lg_sl av).length ≤ maxL) (hlv : lv_args 0 av = lv)
    (body : ∀ (p : Program) (e : Env) (s : State) (m : MethodId) (below : List Frame) (meth : Method) (c : Code) (A : Nat → Prop) (ls : Array Slot) (Q : State → Prop), CallFix p m c cc maxL s av.toArray ws own → meth.sig.returnType = ret → meth.locks = false → meth.name = y.name → A = va_A wc sz → s.heap.size = sz → va_P D vwCl wc s.heap → va_K D vwCl tys s → va_D A wc → (∀ q, s.heap.size ≤ q → A q) → Stat Z A s s.heap → va_S A s.heap s.heap [] → lv_has ls maxL lv → Q = MQ below (Qc A) av.toArray s mc ms A →
      W p l e rm s m av.toArray below meth c s.heap [] 0 0 Q (F0 m 0 ls [])) : Met l y ws rm (va_Pc av (preW D tys Z wc sz)) (Qc (va_A wc sz)) mc ms (va_A wc sz) := by
  refine Met.ofW (cc := cc) (maxL := maxL) (ret := ret) hy hw ?_
  intro p e s m args below meth c s₁ B hml hv
  obtain ⟨rfl, hsz, hP, hK, hD0, hZ⟩ := hv
  have hts := atoms_spec (ws := ws) B.pre
  have hown : s.vm.findClass own = some m.cls := ho ▸ findClass_of_methodNamed B.named
  have hl := lv_entry av (n := maxL) hlen
  rw [lg_entry_eq]
  rw [hlv] at hl
  exact body p e s m below meth c _ _ _ ⟨B.exec, B.bytes, hml, hown, hts⟩ B.returns B.notSynchronized (name_of_methodNamed B.named B.method).1 rfl hsz hP hK hD0.self (fun q h => Or.inr (by omega)) hZ va_S.rf hl rfl
/-- .. of one that may throw -/
theorem m_ofx {l : Launch} {y : MethodName} {ws ws' : List Cond} {rm : Room} {Qc : (Nat → Prop) → Array Value → State → Outcome → State → Prop} {XC : (Nat → Prop) → String → State → State → Prop} {mc ms maxL : Nat} {cc : ByteArray} {ret : Option FieldType} {D : va_G} {tys : List (ClassId × FieldType)} {Z : Nat → Nat} {wc : va_W} {sz : Nat} {av : List Value} (own : String) (lv : List (Nat × Value))
    (hy : plainName y.cls = true) (ho : y.cls = own) (hw : ws = Cond.code y cc maxL ret :: ws') (hlen : (lg_sl av).length ≤ maxL) (hlv : lv_args 0 av = lv)
    (body : ∀ (p : Program) (e : Env) (s : State) (m : MethodId) (below : List Frame) (meth : Method) (c : Code) (A : Nat → Prop) (ls : Array Slot) (Q : State → Prop), CallFix p m c cc maxL s av.toArray ws own → meth.sig.returnType = ret → meth.locks = false → (∀ x ∈ c.exceptionTable.toList, False) → A = va_A wc sz → s.heap.size = sz → va_P D vwCl wc s.heap → va_K D vwCl tys s → va_D A wc → (∀ q, s.heap.size ≤ q → A q) → Stat Z A s s.heap → va_S A s.heap s.heap [] → lv_has ls maxL lv → Q = vx_MQ below (Qc A) (XC A) av.toArray s mc ms A →
      W p l e rm s m av.toArray below meth c s.heap [] 0 0 Q (F0 m 0 ls [])) : vx_Met l y ws rm (va_Pc av (preW D tys Z wc sz)) (Qc (va_A wc sz)) (XC (va_A wc sz)) mc ms (va_A wc sz) := by
  refine vx_ofW (cc := cc) (maxL := maxL) (ret := ret) hy hw ?_
  intro p e s m args below meth c s₁ B hml hex hv
  obtain ⟨rfl, hsz, hP, hK, hD0, hZ⟩ := hv
  have hts := atoms_spec (ws := ws) B.pre
  have hown : s.vm.findClass own = some m.cls := ho ▸ findClass_of_methodNamed B.named
  have hl := lv_entry av (n := maxL) hlen
  rw [lg_entry_eq]
  rw [hlv] at hl
  exact body p e s m below meth c _ _ _ ⟨B.exec, B.bytes, hml, hown, hts⟩ B.returns B.notSynchronized hex rfl hsz hP hK hD0.self (fun q h => Or.inr (by omega)) hZ va_S.rf hl rfl
theorem aft_of {D : va_G} {tys : List (ClassId × FieldType)} {ws : va_W} {A : Nat → Prop} {s : State} {H : Heap} (hK : va_K D vwCl tys s) (hP : va_P D vwCl ws H) (hD : va_D A ws) : ∀ t : State, t.heap = H → s.WarmedH t.vm → aftW D tys ws A t := fun t ht hW => ⟨by rw [ht]; exact hP, va_K.moved hW.alike hK, hD⟩
section EI
variable {p : Program} {l : Launch} {e : Env} {R : Room} {s : State} {m : MethodId} {args : Array Value} {below : List Frame} {meth : Method} {c : Code} {H : Heap} {locs : List Loc} {cells slots : Nat} {Q : State → Prop}
variable {cc : ByteArray} {pc nL : Nat} {ls : Array Slot} {rest : List Value} {Ts : List Cond} {own : String} {A : Nat → Prop}
theorem e_iret (S : CallFix p m c cc nL s args Ts own) {σ : Type} {post : Int32 → σ → Prop} {B : σ → State → Prop} {z : Int} {mc ms : Nat} (hr : meth.sig.returnType = some .int) (hlk : meth.locks = false) (hS : va_S A s.heap H locs) (hc : cells ≤ mc) (hs : slots ≤ ms) (u : σ) (hp : post (iI z) u) (hB : ∀ t : State, t.heap = H → s.WarmedH t.vm → B u t) (hd : decode cc pc = .ok (.ireturn, 1)) : W p l e R s m args below meth c H locs cells slots (MQ below (va_Qi post B A) args s mc ms A) (F0 m pc ls [.int (iI z)]) :=
  W.widen hc hs (W.iret S.1 S.2.1 hr (fun t ht hW => ⟨⟨iI z, u, rfl, hp, hB t ht hW⟩, hS.F ht⟩) hS.2.2 hd hlk)
theorem e_zret (S : CallFix p m c cc nL s args Ts own) {σ : Type} {post : Int32 → σ → Prop} {B : σ → State → Prop} {z : Int} {mc ms : Nat} (hr : meth.sig.returnType = some .boolean) (hlk : meth.locks = false) (hS : va_S A s.heap H locs) (hc : cells ≤ mc) (hs : slots ≤ ms) (hz : z = 0 ∨ z = 1) (u : σ) (hp : post (iI z) u) (hB : ∀ t : State, t.heap = H → s.WarmedH t.vm → B u t) (hd : decode cc pc = .ok (.ireturn, 1)) : W p l e R s m args below meth c H locs cells slots (MQ below (va_Qi post B A) args s mc ms A) (F0 m pc ls [.int (iI z)]) :=
  W.widen hc hs (W.zret S.1 S.2.1 hr (by rcases hz with rfl | rfl <;> decide) (fun t ht hW => ⟨⟨iI z, u, rfl, hp, hB t ht hW⟩, hS.F ht⟩) hS.2.2 hd hlk)
theorem e_vret (S : CallFix p m c cc nL s args Ts own) {σ : Type} {post : σ → Prop} {B : σ → State → Prop} {mc ms : Nat} (hr : meth.sig.returnType = none) (hlk : meth.locks = false) (hS : va_S A s.heap H locs) (hc : cells ≤ mc) (hs : slots ≤ ms) (u : σ) (hp : post u) (hB : ∀ t : State, t.heap = H → s.WarmedH t.vm → B u t) (hd : decode cc pc = .ok (.return_, 1)) : W p l e R s m args below meth c H locs cells slots (MQ below (va_Qv post B A) args s mc ms A) (F0 m pc ls []) :=
  W.widen hc hs (W.vret S.1 S.2.1 hr (fun t ht hW => ⟨⟨u, rfl, hp, hB t ht hW⟩, hS.F ht⟩) hS.2.2 hd hlk)
theorem e_lret (S : CallFix p m c cc nL s args Ts own) {σ : Type} {post : Int64 → σ → Prop} {B : σ → State → Prop} {z : Int64} {mc ms : Nat} (hr : meth.sig.returnType = some .long) (hlk : meth.locks = false) (hS : va_S A s.heap H locs) (hc : cells ≤ mc) (hs : slots ≤ ms) (u : σ) (hp : post z u) (hB : ∀ t : State, t.heap = H → s.WarmedH t.vm → B u t) (hd : decode cc pc = .ok (.lreturn, 1)) : W p l e R s m args below meth c H locs cells slots (MQ below (va_Ql post B A) args s mc ms A) (F0 m pc ls [.long z]) :=
  W.widen hc hs (W.lret S.1 S.2.1 hr (fun t ht hW => ⟨⟨z, u, rfl, hp, hB t ht hW⟩, hS.F ht⟩) hS.2.2 hd hlk)
variable {D : va_G} {tys : List (ClassId × FieldType)} {Z : Nat → Nat} {ws : va_W}
/-- what a callee is handed: its cells out of ours -/
theorem preV_of {wc : va_W} {C : String} {T : u_T} {N b : Nat} {As : List Value} (hK : va_K D vwCl tys s) (hP : va_P D vwCl ws H) (hD : va_D A ws) (hS : va_S A s.heap H locs) (hA : ∀ q, s.heap.size ≤ q → A q) (hZ : Stat Z A s s.heap) (isC : List Nat) (hn : va_nd isC = true) (hC : isC.map (fun i => ws[i]?) = wc.map some) (q0 ci : Nat) {fs : List Value} (he : wc[q0]? = some (b, .inr (ci, fs))) (hc : vwCl[ci]? = some (C, T, N)) : PreV s H C b (va_Pc (.ref b :: As) (preW D tys Z wc H.size)) As := by
  have hF := va_free hD hS hA isC hC
  have hP2 : va_P D vwCl wc H := by
    refine hP.sub isC ?_
    have h1 : isC.filterMap (fun i => ws[i]?) = (isC.map (fun i => ws[i]?)).filterMap id := by rw [List.filterMap_map]; rfl
    rw [h1, hC, List.filterMap_map]
    exact List.filterMap_some
  have hD2 : va_D A wc := hD.sub isC hn hC
  exact ⟨pre_blind, va_recv hK hP2 hc he, fun U hU hW => ⟨rfl, by rw [hU], by rw [hU]; exact hP2, va_K.moved hW.alike hK, hD2.weaken (fun _ _ _ _ => trivial), Stat.give hZ hS hF hU hW⟩⟩
theorem preS_of {wc : va_W} {As : List Value} (hK : va_K D vwCl tys s) (hP : va_P D vwCl ws H) (hD : va_D A ws) (hS : va_S A s.heap H locs) (hA : ∀ q, s.heap.size ≤ q → A q) (hZ : Stat Z A s s.heap) (isC : List Nat) (hn : va_nd isC = true) (hC : isC.map (fun i => ws[i]?) = wc.map some) : PreS s H (va_Pc As (preW D tys Z wc H.size)) As := by
  have hF := va_free hD hS hA isC hC
  have hP2 : va_P D vwCl wc H := by
    refine hP.sub isC ?_
    have h1 : isC.filterMap (fun i => ws[i]?) = (isC.map (fun i => ws[i]?)).filterMap id := by rw [List.filterMap_map]; rfl
    rw [h1, hC, List.filterMap_map]
    exact List.filterMap_some
  have hD2 : va_D A wc := hD.sub isC hn hC
  exact ⟨pre_blind, fun U hU hW => ⟨rfl, by rw [hU], by rw [hU]; exact hP2, va_K.moved hW.alike hK, hD2.weaken (fun _ _ _ _ => trivial), Stat.give hZ hS hF hU hW⟩⟩
theorem k_i {σ : Type} {post : Int32 → σ → Prop} {w1 : σ → va_W} {wc wr : va_W} {a : Array Value} {st0 : List Value} {mc ms : Nat} (hr : va_Run p l e R s m args below meth c H locs cells slots mc ms (F0 m pc ls st0) rest (va_Qi post (fun u t => aftW D tys (w1 u) (va_A wc H.size) t) (va_A wc H.size) a) (va_A wc H.size))
    (hP : va_P D vwCl ws H) (hD : va_D A ws) (hS : va_S A s.heap H locs) (hA : ∀ q, s.heap.size ≤ q → A q) (isC isR : List Nat) (hC : isC.map (fun i => ws[i]?) = wc.map some) (hR : isR.map (fun i => ws[i]?) = wr.map some) (hn : va_nd isR = true) (hdis : ∀ i ∈ isR, i ∉ isC) (perm : List Nat) (hnp : va_nd perm = true) (w2 : σ → va_W) (hp : ∀ u, perm.map (fun i => (wr ++ w1 u)[i]?) = (w2 u).map some)
    (kk : ∀ (r : Int32) (u : σ) (H1 : Heap) (locs1 : List Loc), post r u → va_P D vwCl (w2 u) H1 → va_D A (w2 u) → va_S A s.heap H1 locs1 → W p l e R s m args below meth c H1 locs1 (cells + mc) (slots + ms) Q (F0 m (pc + 3) ls (.int r :: rest))) : W p l e R s m args below meth c H locs cells slots Q (F0 m pc ls st0) := by
  have hF := va_free hD hS hA isC hC
  refine va_calli hr hS (fun q _ h => hF q h) hF (fun r u t H1 locs1 ht hvm hw hB hz1 hk1 hS1 => ?_)
  obtain ⟨hP1, hK1, hD1⟩ := hB
  rw [ht] at hP1
  obtain ⟨hP2, hD2⟩ := va_join hP hD isC isR hC hR hn hdis hk1 hF hP1 hD1
  refine kk r u H1 locs1 hw ?_ (hD2.sub perm hnp (hp u)) hS1
  refine hP2.sub perm ?_
  have h1 : perm.filterMap (fun i => (wr ++ w1 u)[i]?) = (perm.map (fun i => (wr ++ w1 u)[i]?)).filterMap id := by rw [List.filterMap_map]; rfl
  rw [h1, hp u, List.filterMap_map]
  exact List.filterMap_some
theorem k_l {σ : Type} {post : Int64 → σ → Prop} {w1 : σ → va_W} {wc wr : va_W} {a : Array Value} {st0 : List Value} {mc ms : Nat} (hr : va_Run p l e R s m args below meth c H locs cells slots mc ms (F0 m pc ls st0) rest (va_Ql post (fun u t => aftW D tys (w1 u) (va_A wc H.size) t) (va_A wc H.size) a) (va_A wc H.size))
    (hP : va_P D vwCl ws H) (hD : va_D A ws) (hS : va_S A s.heap H locs) (hA : ∀ q, s.heap.size ≤ q → A q) (isC isR : List Nat) (hC : isC.map (fun i => ws[i]?) = wc.map some) (hR : isR.map (fun i => ws[i]?) = wr.map some) (hn : va_nd isR = true) (hdis : ∀ i ∈ isR, i ∉ isC) (perm : List Nat) (hnp : va_nd perm = true) (w2 : σ → va_W) (hp : ∀ u, perm.map (fun i => (wr ++ w1 u)[i]?) = (w2 u).map some)
    (kk : ∀ (r : Int64) (u : σ) (H1 : Heap) (locs1 : List Loc), post r u → va_P D vwCl (w2 u) H1 → va_D A (w2 u) → va_S A s.heap H1 locs1 → W p l e R s m args below meth c H1 locs1 (cells + mc) (slots + ms) Q (F0 m (pc + 3) ls (.long r :: rest))) : W p l e R s m args below meth c H locs cells slots Q (F0 m pc ls st0) := by
  have hF := va_free hD hS hA isC hC
  refine va_calll hr hS (fun q _ h => hF q h) hF (fun r u t H1 locs1 ht hvm hw hB hz1 hk1 hS1 => ?_)
  obtain ⟨hP1, hK1, hD1⟩ := hB
  rw [ht] at hP1
  obtain ⟨hP2, hD2⟩ := va_join hP hD isC isR hC hR hn hdis hk1 hF hP1 hD1
  refine kk r u H1 locs1 hw ?_ (hD2.sub perm hnp (hp u)) hS1
  refine hP2.sub perm ?_
  have h1 : perm.filterMap (fun i => (wr ++ w1 u)[i]?) = (perm.map (fun i => (wr ++ w1 u)[i]?)).filterMap id := by rw [List.filterMap_map]; rfl
  rw [h1, hp u, List.filterMap_map]
  exact List.filterMap_some
theorem k_v {σ : Type} {post : σ → Prop} {w1 : σ → va_W} {wc wr : va_W} {a : Array Value} {st0 : List Value} {mc ms : Nat} (hr : va_Run p l e R s m args below meth c H locs cells slots mc ms (F0 m pc ls st0) rest (va_Qv post (fun u t => aftW D tys (w1 u) (va_A wc H.size) t) (va_A wc H.size) a) (va_A wc H.size))
    (hP : va_P D vwCl ws H) (hD : va_D A ws) (hS : va_S A s.heap H locs) (hA : ∀ q, s.heap.size ≤ q → A q) (isC isR : List Nat) (hC : isC.map (fun i => ws[i]?) = wc.map some) (hR : isR.map (fun i => ws[i]?) = wr.map some) (hn : va_nd isR = true) (hdis : ∀ i ∈ isR, i ∉ isC) (perm : List Nat) (hnp : va_nd perm = true) (w2 : σ → va_W) (hp : ∀ u, perm.map (fun i => (wr ++ w1 u)[i]?) = (w2 u).map some)
    (kk : ∀ (u : σ) (H1 : Heap) (locs1 : List Loc), post u → va_P D vwCl (w2 u) H1 → va_D A (w2 u) → va_S A s.heap H1 locs1 → W p l e R s m args below meth c H1 locs1 (cells + mc) (slots + ms) Q (F0 m (pc + 3) ls (rest))) : W p l e R s m args below meth c H locs cells slots Q (F0 m pc ls st0) := by
  have hF := va_free hD hS hA isC hC
  refine va_callv hr hS (fun q _ h => hF q h) hF (fun u t H1 locs1 ht hvm hw hB hz1 hk1 hS1 => ?_)
  obtain ⟨hP1, hK1, hD1⟩ := hB
  rw [ht] at hP1
  obtain ⟨hP2, hD2⟩ := va_join hP hD isC isR hC hR hn hdis hk1 hF hP1 hD1
  refine kk u H1 locs1 hw ?_ (hD2.sub perm hnp (hp u)) hS1
  refine hP2.sub perm ?_
  have h1 : perm.filterMap (fun i => (wr ++ w1 u)[i]?) = (perm.map (fun i => (wr ++ w1 u)[i]?)).filterMap id := by rw [List.filterMap_map]; rfl
  rw [h1, hp u, List.filterMap_map]
  exact List.filterMap_some
end EI
