/-! ===== BEGIN words of one list among another's, by their places ===== -/
theorem goodIn_r {big : List Cond} (ws : List Cond) (ps : List Nat) (hp : ws = ps.filterMap (fun i => big[i]?)) (h : ws.all goodWord = true) : GoodIn big ws := by
  intro w hw
  have h1 := List.all_eq_true.mp h w hw
  rw [hp] at hw
  obtain ⟨i, -, hi⟩ := List.mem_filterMap.mp hw
  have hm : w ∈ big := by first | exact List.mem_of_getElem? hi | exact List.getElem?_mem hi
  exact ⟨hm, good_of_word h1⟩
theorem goodIn_app {big a b : List Cond} (ha : GoodIn big a) (hb : GoodIn big b) : GoodIn big (a ++ b) := fun w h => (List.mem_append.mp h).elim (ha w) (hb w)
theorem goodIn_ca {big a b : List Cond} {c : Cond} (ha : GoodIn big (c :: a)) (hb : GoodIn big b) : GoodIn big (c :: (a ++ b)) := fun w h => (List.mem_cons.mp h).elim (fun e => ha w (List.mem_cons.mpr (Or.inl e))) (fun h => (List.mem_append.mp h).elim (fun h => ha w (List.mem_cons.mpr (Or.inr h))) (hb w))
theorem goodIn_sub {big ws : List Cond} (hm : ∀ w ∈ ws, w ∈ big) (h : ws.all goodWord = true) : GoodIn big ws := fun w hw => ⟨hm w hw, good_of_word (List.all_eq_true.mp h w hw)⟩
/-! ===== END ===== -/

/-! ===== BEGIN exceptions that leave a method, and their catching by the caller (launches without stack traces) ===== -/
section VXA
/-! The laws vx_back, vx_callV, vx_callS, vx_callSW, vx_throw0, vx_throwS follow proofs of the library, with one case more: JvmDerived/Free/Laws.lean (Back.of_free), Shelf42/LK1.lean (callV, callS), Shelf/KitTraced.lean (throwNew0V, throwNewS). -/
/-- where a method has thrown q: the class by its name, the cell, what was written, the world -/
def vx_T (XC : String → State → State → Prop) (st : State) (q : Addr) (t : State) (mc ms : Nat) (free : Addr → Prop) : Prop :=
  ∃ (E : String) (ce : Cell) (L : List Loc), XC E st t ∧ t.heap[q]? = some ce ∧ ce.vm = .none ∧ st.vm.findClass E = some ce.cls ∧ st.WarmedH t.vm ∧ st.sameButNew ({ t with vm := st.vm } : State) L mc ms ∧ ∀ z ∈ L, free z.base
def vx_Q (Qc : Array Value → State → Outcome → State → Prop) (XC : String → State → State → Prop) (mc ms : Nat) (free : Addr → Prop) : Array Value → State → Outcome → State → Prop := fun a st o t =>
  (Qc a st o t ∧ ∃ L, FrameEnd st o t L mc ms ∧ ∀ q ∈ L, free q.base) ∨ ∃ q, o = .threw q ∧ vx_T XC st q t mc ms free
/-- a callee that returns or throws -/
def vx_Met (l : Launch) (y : MethodName) (ws : List Cond) (rm : Room) (Pc : Array Value → State → Prop) (Qc : Array Value → State → Outcome → State → Prop) (XC : String → State → State → Prop) (mc ms : Nat) (free : Addr → Prop) : Prop :=
  MetFree l y (headSpec ws rm) Pc (fun _ _ _ _ _ => True) (vx_Q Qc XC mc ms free)
def vx_Post (XC : String → State → State → Prop) (mc ms : Nat) (free : Addr → Prop) : Pt → Array Value → Addr → Pt → Prop := fun A a q B =>
  ∃ (g : JFrame) (mk : MethodId) (t : State) (L : List Loc) (E : String) (ce : Cell), B.U.heap = t.heap ∧ B.U.vm = t.vm ∧ XC E (A.U.calling g mk a) t ∧ t.heap[q]? = some ce ∧ ce.vm = .none ∧ A.U.vm.findClass E = some ce.cls ∧ B.locs = A.locs ++ L ∧ (∀ z ∈ L, free z.base) ∧ B.cells = A.cells + mc ∧ B.slots = A.slots + ms
def vx_Back (l : Launch) (R : Room) (p : Program) (e : Env) (below : List Frame) (s : State) (sargs : Array Value) (y : MethodName) (len W9 : Nat)
    (Pre : Pt → Array Value → Prop) (Post : Pt → Array Value → Option Value → Pt → Prop) (PostX : Pt → Array Value → Addr → Pt → Prop) : Prop :=
  ∀ (m : MethodId) (meth : Method) (c : Code) (A : Pt) (g : JFrame) (ig : Instr) (mk : MethodId) (a : Array Value),
    Stand p l e R s m sargs below meth c A.U A.locs A.cells A.slots → g.method = m → g.locals.size = c.maxLocals → decode c.code g.pc = .ok (ig, len) →
    2 * g.monitorRoom + (g.stack.map fun v => v.category).sum ≤ W9 → A.U.methodNamed? y = some mk → Pre A a →
    (∃ (v : Option Value) (B : Pt), Stand p l e R s m sargs below meth c B.U B.locs B.cells B.slots ∧ Post A a v B ∧
      Steps p.tables e below (doInvoke e (A.U.setTop g) [] mk a).1 (B.U.setTop { g with pc := g.pc + len, stack := v.toList ++ g.stack })) ∨
    (∃ (q : Addr) (B : Pt), Stand p l e R s m sargs below meth c B.U B.locs B.cells B.slots ∧ PostX A a q B ∧
      Steps p.tables e below (doInvoke e (A.U.setTop g) [] mk a).1 ((B.U.setTop g).pushFrame (.throwing q)))
section Payer
variable {l : Launch} {R : Room} {p : Program} {e : Env} {below : List Frame} {s : State} {sargs : Array Value} {y : MethodName} {len W9 : Nat}
theorem vx_back {ws : List Cond} {rm : Room} {Pc : Array Value → State → Prop} {Qc : Array Value → State → Outcome → State → Prop} {XC : String → State → State → Prop} {mc ms : Nat} {free : Addr → Prop} {bytes : ByteArray} {maxL : Nat} {ret : Option FieldType}
    (hM : vx_Met l y ws rm Pc Qc XC mc ms free) (hblind : FrameBlind Pc) (hrc : rm.cells = mc) (hrs : rm.slots = ms)
    (hframes : rm.frames + 1 ≤ R.frames) (hlocals : W9 + (maxL + 11) + rm.locals ≤ R.locals)
    (hws : ∀ w ∈ ws, ∀ a' U, s.WarmedH U.vm → w.before a' U = true) (hcode : Cond.code y bytes maxL ret ∈ ws) (hinit : ∀ a' U, s.WarmedH U.vm → (Cond.initialized y.cls).before a' U = true) :
    vx_Back l R p e below s sargs y len W9 (PreOf R mc ms Pc) (PostOf Qc mc ms free) (vx_Post XC mc ms free) := by
  intro m meth c A g ig mk a X hg hsize hdg hW hn hp
  have h1 : (headSpec ws rm).pre.before a A.U = true := atoms_intro fun w hw => hws w hw _ _ X.warmed
  have h2 : (Cond.code y bytes maxL ret).before a A.U = true := hws _ hcode _ _ X.warmed
  have h3 : (Cond.initialized y.cls).before a A.U = true := hinit _ _ X.warmed
  have h4 : A.cells + (headSpec ws rm).room.cells ≤ R.cells := by rw [show (headSpec ws rm).room.cells = mc from hrc]; exact hp.1
  have h5 : A.slots + (headSpec ws rm).room.slots ≤ R.slots := by rw [show (headSpec ws rm).room.slots = ms from hrs]; exact hp.2.1
  have hPc : Pc a (A.U.calling g mk a) := hblind _ _ _ _ hp.2.2
  obtain ⟨U, Ls, c0, s0⟩ := A
  dsimp only [Pt.U, Pt.locs, Pt.cells, Pt.slots] at h1 h2 h3 h4 h5 X hn hPc ⊢
  obtain ⟨methY, cY, hmY, hcY, -, hlY, -, -, -, -⟩ := Cond.code_spec hn h2
  obtain ⟨kY, hkY, -⟩ := className_of_methodNamed hn
  have hinitY : kY.init = .initialized := Cond.initialized_spec (findClass_of_methodNamed hn) hkY h3
  have h : At U g.method c below := by rw [hg]; exact X.here
  have hlocals9 : W9 + (maxL + 11) + (headSpec ws rm).room.locals ≤ R.locals := hlocals
  have happ : (headSpec ws rm).appliesLoose y e.platform (U.calling g mk a) = true :=
    Spec.appliesLoose_calling (g := g) h hdg hn hkY hinitY
      (X.room_calling (g := g) (R' := (headSpec ws rm).room) hsize hmY hcY hframes (by rw [hlY]; omega) h4 h5) h1
  obtain ⟨mid, hmid⟩ := h.above
  have hfr : (U.setTop g).frames = (.java g :: mid) ++ below := by rw [State.frames_setTop' g h.top, hmid]; rfl
  obtain ⟨o, s₂, hsteps, -, hend, hq⟩ := Steps.callFree hM p X.admits X.cas X.clock (acts := []) hfr happ hPc trivial
  have hq' : vx_Q Qc XC mc ms free a (U.calling g mk a) o s₂ := hq
  rw [State.frames_setTop' g h.top] at hend
  obtain ⟨g₀, hg0⟩ := Option.isSome_iff_exists.mp h.top
  obtain ⟨r, hr⟩ := State.topJava?_eq_some.mp hg0
  have hr' : (({ U with heap := s₂.heap, slotsUsed := s₂.slotsUsed } : State).setVm s₂.vm).frames = .java g₀ :: r := hr
  rcases hq' with ⟨hqc, L, hfe, hL⟩ | ⟨q, rfl, E, ce, L, hx, hce, hcv, hcl, hW₂, hsm, hL⟩
  · obtain ⟨⟨v, rfl⟩, hW₂, e2, q2, q3, q4, q5, q6⟩ := id hfe
    have e3 : s₂ = ({ (U.calling g mk a).setFrames s₂.frames with heap := s₂.heap, slotsUsed := s₂.slotsUsed } : State).setVm s₂.vm := by
      have : s₂ = ({ s₂ with vm := (U.calling g mk a).vm } : State).setVm s₂.vm := rfl
      rw [e2] at this
      exact this
    obtain ⟨c₂, i₂, len₂, hc₂, hd₂, hf₂⟩ := hend
    have hW' : U.WarmedH s₂.vm := hW₂
    have hcc : c₂ = c := by
      have h1 : s₂.code? g.method = U.code? g.method := by
        rw [State.code?_eq, State.code?_eq, hW'.alike.method?]
      exact Option.some.inj (hc₂.symm.trans (h1.trans h.code))
    subst hcc
    have hlen : len₂ = len := by rw [hdg] at hd₂; cases hd₂; rfl
    subst hlen
    have hs₂ : s₂ = (({ U with heap := s₂.heap, slotsUsed := s₂.slotsUsed } : State).setVm s₂.vm).setTop { g with pc := g.pc + len₂, stack := v.toList ++ g.stack } := by
      refine e3.trans ?_
      rw [hf₂, State.calling_eq h.top, State.setFrames_setFrames, State.setTop_of_frames _ hr', hr]
      rfl
    have hsame : U.sameButNew ({ U with heap := s₂.heap, slotsUsed := s₂.slotsUsed } : State) L mc ms := by
      refine ⟨?_, q2, q3, q4, q5, q6⟩
      obtain ⟨t, ht, -⟩ := State.frames_cons hr
      show ({ U with heap := s₂.heap, slotsUsed := s₂.slotsUsed } : State) = { U.setFrames U.frames with heap := s₂.heap, slotsUsed := s₂.slotsUsed }
      rw [State.setFrames_self ht]
    subst hg
    refine Or.inl ⟨v, ⟨(({ U with heap := s₂.heap, slotsUsed := s₂.slotsUsed } : State).setVm s₂.vm), Ls ++ L, c0 + mc, s0 + ms⟩,
      ⟨X.admits, X.cas, X.clock, X.frames, X.room, X.hears, X.method, X.code, (X.here.setHeapUsed s₂.heap s₂.slotsUsed).setVm hW'.alike, X.tail, State.WarmedH.trans X.warmed hW', X.limits, X.bytes, X.same.trans (hsame.setVm s.vm)⟩,
      ⟨g, mk, s₂, L, rfl, rfl, hqc, rfl, hL, rfl, rfl⟩, ?_⟩
    show Steps p.tables e below _ ((({ U with heap := s₂.heap, slotsUsed := s₂.slotsUsed } : State).setVm s₂.vm).setTop { g with pc := g.pc + len₂, stack := v.toList ++ g.stack })
    rw [← hs₂]
    exact hsteps
  · obtain ⟨e2, q2, q3, q4, q5, q6⟩ := id hsm
    have e3 : s₂ = ({ (U.calling g mk a).setFrames s₂.frames with heap := s₂.heap, slotsUsed := s₂.slotsUsed } : State).setVm s₂.vm := by
      have : s₂ = ({ s₂ with vm := (U.calling g mk a).vm } : State).setVm s₂.vm := rfl
      rw [e2] at this
      exact this
    have hf₂ : s₂.frames = .throwing q :: .java g :: U.frames.tail := hend
    have hW' : U.WarmedH s₂.vm := hW₂
    have hs₂ : s₂ = ((({ U with heap := s₂.heap, slotsUsed := s₂.slotsUsed } : State).setVm s₂.vm).setTop g).pushFrame (.throwing q) := by
      refine e3.trans ?_
      rw [hf₂, State.calling_eq h.top, State.setFrames_setFrames, State.pushFrame, State.frames_setTop _ hr', State.setTop_of_frames _ hr', State.setFrames_setFrames, hr]
      rfl
    have hsame : U.sameButNew ({ U with heap := s₂.heap, slotsUsed := s₂.slotsUsed } : State) L mc ms := by
      refine ⟨?_, q2, q3, q4, q5, q6⟩
      obtain ⟨t, ht, -⟩ := State.frames_cons hr
      show ({ U with heap := s₂.heap, slotsUsed := s₂.slotsUsed } : State) = { U.setFrames U.frames with heap := s₂.heap, slotsUsed := s₂.slotsUsed }
      rw [State.setFrames_self ht]
    subst hg
    refine Or.inr ⟨q, ⟨(({ U with heap := s₂.heap, slotsUsed := s₂.slotsUsed } : State).setVm s₂.vm), Ls ++ L, c0 + mc, s0 + ms⟩,
      ⟨X.admits, X.cas, X.clock, X.frames, X.room, X.hears, X.method, X.code, (X.here.setHeapUsed s₂.heap s₂.slotsUsed).setVm hW'.alike, X.tail, State.WarmedH.trans X.warmed hW', X.limits, X.bytes, X.same.trans (hsame.setVm s.vm)⟩,
      ⟨g, mk, s₂, L, E, ce, rfl, rfl, hx, hce, hcv, hcl, rfl, hL, rfl, rfl⟩, ?_⟩
    show Steps p.tables e below _ (((({ U with heap := s₂.heap, slotsUsed := s₂.slotsUsed } : State).setVm s₂.vm).setTop g).pushFrame (.throwing q))
    rw [← hs₂]
    exact hsteps
end Payer
section Calls
variable {p : Program} {l : Launch} {e : Env} {R : Room} {s : State} {m : MethodId} {args : Array Value} {below : List Frame} {meth : Method} {c : Code} {T : State} {locs : List Loc} {cells slots : Nat}
theorem vx_callV (X : Stand p l e R s m args below meth c T locs cells slots) (hexec : p.tables.exec = Jvm.exec) {own C : String} {index : Nat} {y : MethodName} {bytes : ByteArray} {maxL : Nat} {ret : Option FieldType}
    (hown : s.vm.findClass own = some m.cls) (hlink : (Cond.methodLink own index y).before args s = true) (hinst : (Cond.instanceMethod y).before args s = true) (hsel : (Cond.selects C y y).before args s = true)
    (hcode : (Cond.code y bytes maxL ret).before args s = true) (hy : y.cls ≠ "java/lang/invoke/MethodHandle" ∧ y.cls ≠ "java/lang/invoke/VarHandle")
    {W9 : Nat} {Pre : Pt → Array Value → Prop} {Post : Pt → Array Value → Option Value → Pt → Prop} {PostX : Pt → Array Value → Addr → Pt → Prop} (hK : vx_Back l R p e below s args y 3 W9 Pre Post PostX)
    {b : Addr} {cellB : Cell} (hcell : T.heap[b]? = some cellB) (hobj : cellB.vm.isStatics = false) (hcls : s.vm.findClass C = some cellB.cls)
    {g : JFrame} (hg : g.method = m) (hsize : g.locals.size = c.maxLocals) {argsL rest : List Value} (hlen : ∀ sig, parseMethodDescriptor y.desc = some sig → argsL.length = sig.parameters.length)
    (hstack : g.stack = argsL.reverse ++ .ref b :: rest) (hW : 2 * g.monitorRoom + (rest.map fun v => v.category).sum ≤ W9) (hdg : decode c.code g.pc = .ok (.invokevirtual index, 3))
    (hpre : ∀ vm₁, s.WarmedH vm₁ → Pre ⟨T.setVm vm₁, locs, cells, slots⟩ (Value.ref b :: argsL).toArray) :
    (∃ (v : Option Value) (vm₁ : Vm) (B : Pt), s.WarmedH vm₁ ∧ Stand p l e R s m args below meth c B.U B.locs B.cells B.slots ∧ Post ⟨T.setVm vm₁, locs, cells, slots⟩ (Value.ref b :: argsL).toArray v B ∧
      ∀ target, Steps p.tables e below (B.U.setTop { g with pc := g.pc + 3, stack := v.toList ++ rest }) target → Steps p.tables e below (T.setTop g) target) ∨
    (∃ (q : Addr) (vm₁ : Vm) (B : Pt), s.WarmedH vm₁ ∧ Stand p l e R s m args below meth c B.U B.locs B.cells B.slots ∧ PostX ⟨T.setVm vm₁, locs, cells, slots⟩ (Value.ref b :: argsL).toArray q B ∧
      Steps p.tables e below (T.setTop g) ((B.U.setTop { g with stack := rest }).pushFrame (.throwing q))) := by
  obtain ⟨mk, methM, hnamed, hmethM, hstM, habM⟩ := Cond.instanceMethod_spec hinst
  obtain ⟨methM', cM, hmethM', -, -, -, -, -, -, hsigM⟩ := Cond.code_spec hnamed hcode
  cases hmethM.symm.trans hmethM'
  obtain ⟨c2, r2, m2, q1, q2, q3, q4, kP, hkP, hkPi⟩ := Cond.selects_spec hsel
  cases hcls.symm.trans q1
  cases (State.methodFound?_of_named hnamed hy).symm.trans q2
  cases hnamed.symm.trans q3
  have hselP : selectMethod e.platform s.vm cellB.cls mk = .method mk := by rw [Launch.admits_selectMethod X.admits]; exact q4
  obtain ⟨vm₁, X₁, hstep₁⟩ := X.invokevirtual hexec hown hlink hnamed hmethM hstM hkP hkPi hy (a := b) (cell := cellB) hcell
    (fun z h => by rw [h] at hobj; cases hobj) hselP hmethM habM hkP hkPi (g := g) hg (argsL := argsL) (rest := rest) (hlen _ hsigM) hstack hdg
  rcases hK m meth c ⟨T.setVm vm₁, locs, cells, slots⟩ { g with stack := rest } (.invokevirtual index) mk (Value.ref b :: argsL).toArray X₁ hg hsize hdg hW (X₁.named hnamed) (hpre vm₁ X₁.warmed) with ⟨v, B, X', hpost, hsteps⟩ | ⟨q, B, X', hpost, hsteps⟩
  · exact Or.inl ⟨v, vm₁, B, X₁.warmed, X', hpost, fun target h => hstep₁ _ fun acts => by rw [doInvoke_state]; exact hsteps.trans h⟩
  · exact Or.inr ⟨q, vm₁, B, X₁.warmed, X', hpost, hstep₁ _ fun acts => by rw [doInvoke_state]; exact hsteps⟩
theorem vx_callS (X : Stand p l e R s m args below meth c T locs cells slots) (hexec : p.tables.exec = Jvm.exec) {own : String} {index : Nat} {y : MethodName} {bytes : ByteArray} {maxL : Nat} {ret : Option FieldType}
    (hown : s.vm.findClass own = some m.cls) (hlink : (Cond.methodLink own index y).before args s = true) (hstat : (Cond.static y).before args s = true) (hinit : (Cond.initialized y.cls).before args s = true)
    (hcode : (Cond.code y bytes maxL ret).before args s = true) (hy : y.cls ≠ "java/lang/invoke/MethodHandle" ∧ y.cls ≠ "java/lang/invoke/VarHandle")
    {W9 : Nat} {Pre : Pt → Array Value → Prop} {Post : Pt → Array Value → Option Value → Pt → Prop} {PostX : Pt → Array Value → Addr → Pt → Prop} (hK : vx_Back l R p e below s args y 3 W9 Pre Post PostX)
    {g : JFrame} (hg : g.method = m) (hsize : g.locals.size = c.maxLocals) {argsL rest : List Value} (hlen : ∀ sig, parseMethodDescriptor y.desc = some sig → argsL.length = sig.parameters.length)
    (hstack : g.stack = argsL.reverse ++ rest) (hW : 2 * g.monitorRoom + (rest.map fun v => v.category).sum ≤ W9) (hdg : decode c.code g.pc = .ok (.invokestatic index, 3))
    (hpre : ∀ vm₁, s.WarmedH vm₁ → Pre ⟨T.setVm vm₁, locs, cells, slots⟩ argsL.toArray) :
    (∃ (v : Option Value) (vm₁ : Vm) (B : Pt), s.WarmedH vm₁ ∧ Stand p l e R s m args below meth c B.U B.locs B.cells B.slots ∧ Post ⟨T.setVm vm₁, locs, cells, slots⟩ argsL.toArray v B ∧
      ∀ target, Steps p.tables e below (B.U.setTop { g with pc := g.pc + 3, stack := v.toList ++ rest }) target → Steps p.tables e below (T.setTop g) target) ∨
    (∃ (q : Addr) (vm₁ : Vm) (B : Pt), s.WarmedH vm₁ ∧ Stand p l e R s m args below meth c B.U B.locs B.cells B.slots ∧ PostX ⟨T.setVm vm₁, locs, cells, slots⟩ argsL.toArray q B ∧
      Steps p.tables e below (T.setTop g) ((B.U.setTop { g with stack := rest }).pushFrame (.throwing q))) := by
  obtain ⟨mk, hnamed⟩ := Cond.code_named hcode
  obtain ⟨methM, cM, hmethM, -, -, -, -, -, -, hsigM⟩ := Cond.code_spec hnamed hcode
  have hstatic : methM.isStatic = true := Cond.static_spec hnamed hmethM hstat
  obtain ⟨kP, hkP, -⟩ := className_of_methodNamed hnamed
  have hinitP : kP.init = .initialized := Cond.initialized_spec (findClass_of_methodNamed hnamed) hkP hinit
  obtain ⟨vm₁, X₁, hstep₁⟩ := X.invokestatic hexec hown hlink hnamed hmethM hstatic hkP hinitP hy (g := g) hg (argsL := argsL) (rest := rest) (hlen _ hsigM) hstack hdg
  rcases hK m meth c ⟨T.setVm vm₁, locs, cells, slots⟩ { g with stack := rest } (.invokestatic index) mk argsL.toArray X₁ hg hsize hdg hW (X₁.named hnamed) (hpre vm₁ X₁.warmed) with ⟨v, B, X', hpost, hsteps⟩ | ⟨q, B, X', hpost, hsteps⟩
  · exact Or.inl ⟨v, vm₁, B, X₁.warmed, X', hpost, fun target h => hstep₁ _ fun acts => by rw [doInvoke_state]; exact hsteps.trans h⟩
  · exact Or.inr ⟨q, vm₁, B, X₁.warmed, X', hpost, hstep₁ _ fun acts => by rw [doInvoke_state]; exact hsteps⟩
end Calls
theorem vx_cls {s : State} {T : State} {vm₁ : Vm} {E : String} {k : ClassId} (hW : s.WarmedH vm₁) (h : (T.setVm vm₁).vm.findClass E = some k) : s.vm.findClass E = some k := by
  have h1 : vm₁.findClass E = some k := h
  rw [hW.alike.findClass] at h1
  exact h1
/-- the method's frame g, with q thrown over it -/
def vx_W (p : Program) (l : Launch) (e : Env) (R : Room) (s : State) (m : MethodId) (args : Array Value) (below : List Frame) (meth : Method) (c : Code) (H : Heap) (locs : List Loc) (cells slots : Nat) (Q : State → Prop) (g : JFrame) (q : Addr) : Prop :=
  ∀ T : State, T.heap = H → Stand p l e R s m args below meth c T locs cells slots → ∃ t, Steps p.tables e below ((T.setTop g).pushFrame (.throwing q)) t ∧ Q t
def vx_Run (p : Program) (l : Launch) (e : Env) (R : Room) (s : State) (m : MethodId) (args : Array Value) (below : List Frame) (meth : Method) (c : Code) (H : Heap) (locs : List Loc) (cells slots mc ms : Nat) (g : JFrame) (rest : List Value) (Qa : State → Outcome → State → Prop) (XC : String → State → State → Prop) (free : Addr → Prop) : Prop :=
  ∀ T : State, T.heap = H → Stand p l e R s m args below meth c T locs cells slots →
    (∃ (v : Option Value) (st₀ t T' : State) (L : List Loc), st₀.heap = H ∧ Stand p l e R s m args below meth c T' (locs ++ L) (cells + mc) (slots + ms) ∧ (∀ q ∈ L, free q.base) ∧ T'.heap = t.heap ∧ T'.vm = t.vm ∧ Qa st₀ (.returned v) t ∧
      Goes p e below T g T' { g with pc := g.pc + 3, stack := v.toList ++ rest }) ∨
    (∃ (q : Addr) (st₀ t T' : State) (L : List Loc) (E : String) (ce : Cell), st₀.heap = H ∧ Stand p l e R s m args below meth c T' (locs ++ L) (cells + mc) (slots + ms) ∧ (∀ z ∈ L, free z.base) ∧ T'.heap = t.heap ∧ T'.vm = t.vm ∧ XC E st₀ t ∧ t.heap[q]? = some ce ∧ ce.vm = .none ∧ s.vm.findClass E = some ce.cls ∧
      Steps p.tables e below (T.setTop g) ((T'.setTop { g with stack := rest }).pushFrame (.throwing q)))
def vx_X {S : Type} (px : S → Prop) (B : String → S → State → Prop) (A : Nat → Prop) : String → State → State → Prop := fun E st t => ∃ u : S, px u ∧ B E u t ∧ va_F A st t
section Runs
variable {p : Program} {l : Launch} {e : Env} {R : Room} {s : State} {m : MethodId} {args : Array Value} {below : List Frame} {meth : Method} {c : Code} {H : Heap} {locs : List Loc} {cells slots : Nat}
variable {y : MethodName} {bytes cc : ByteArray} {maxL nL mc ms n index : Nat} {ret : Option FieldType} {ws : List Cond} {rm : Room} {Pc : Array Value → State → Prop} {Qc : Array Value → State → Outcome → State → Prop} {XC : String → State → State → Prop} {free : Addr → Prop} {Ts : List Cond} {own C : String} {b : Addr} {As rest : List Value} {g : JFrame}
theorem vx_callBack (cb : CallB R s args own index y bytes maxL ret ws rm mc ms n) (hM : vx_Met l y ws rm Pc Qc XC mc ms free) (hbl : FrameBlind Pc) : vx_Back l R p e below s args y 3 8 (PreOf R mc ms Pc) (PostOf Qc mc ms free) (vx_Post XC mc ms free) := by
  obtain ⟨hrc, hrs, hfr, hlo, hws, hcw, -, hini, -⟩ := cb
  exact vx_back (bytes := bytes) (maxL := maxL) (ret := ret) hM hbl hrc hrs hfr hlo hws hcw (fun a' U hW => word_at hW (Or.inl (by first | rfl | simp [Cond.onTables, Cond.keeps, Cond.steady])) hini)
theorem vx_runV (S : CallFix p m c cc nL s args Ts own) (hM : vx_Met l y ws rm Pc Qc XC mc ms free) (cw : CallW R s args own C index y bytes maxL ret ws rm mc ms n) (hp : PreV s H C b Pc As)
    (hg : g.method = m) (hn : As.length = n) (hsize : g.locals.size = nL) (hstack : g.stack = As.reverse ++ .ref b :: rest) (hW : 2 * g.monitorRoom + (rest.map fun v => v.category).sum ≤ 8) (hdg : decode cc g.pc = .ok (.invokevirtual index, 3)) (hf : cells + mc ≤ R.cells ∧ slots + ms ≤ R.slots) :
    vx_Run p l e R s m args below meth c H locs cells slots mc ms g rest (Qc (Value.ref b :: As).toArray) XC free := by
  have hK : vx_Back l R p e below s args y 3 8 (PreOf R mc ms Pc) (PostOf Qc mc ms free) (vx_Post XC mc ms free) := vx_callBack cw.1 hM hp.1
  obtain ⟨⟨-, -, -, -, -, -, hcode, -, hy, hlen, hl⟩, hin, hse⟩ := cw
  obtain ⟨hx, hb, hml, ho, -⟩ := S
  obtain ⟨-, ⟨cellB, hcB, hoB, hclB⟩, hPc⟩ := hp
  intro T hT X
  rcases vx_callV X hx (C := C) (bytes := bytes) (maxL := maxL) (ret := ret) ho hl hin hse hcode hy hK (by rw [hT]; exact hcB) hoB hclB hg (hsize.trans hml.symm) (argsL := As) (rest := rest) (fun sig h => hn.trans (hlen sig h)) hstack hW (by rw [hb]; exact hdg)
    (fun vm₁ hW₁ => ⟨hf.1, hf.2, hPc (T.setVm vm₁) hT hW₁⟩) with ⟨v, vm₁, ⟨U', l2, c2, s2⟩, hW₁, X', ⟨g', mk, t, L, e1, e2, hq, h1, hL, h2, h3⟩, st⟩ | ⟨q, vm₁, ⟨U', l2, c2, s2⟩, hW₁, X', ⟨g', mk, t, L, E, ce, e1, e2, hq, hce, hcv, hcl, h1, hL, h2, h3⟩, st⟩
  · dsimp only [Pt.U, Pt.locs, Pt.cells, Pt.slots] at X' e1 e2 h1 h2 h3 st
    subst h1; subst h2; subst h3
    exact Or.inl ⟨v, (T.setVm vm₁).calling g' mk (Value.ref b :: As).toArray, t, U', L, hT, X', hL, e1, e2, hq, st⟩
  · dsimp only [Pt.U, Pt.locs, Pt.cells, Pt.slots] at X' e1 e2 h1 h2 h3 st hcl
    subst h1; subst h2; subst h3
    exact Or.inr ⟨q, (T.setVm vm₁).calling g' mk (Value.ref b :: As).toArray, t, U', L, E, ce, hT, X', hL, e1, e2, hq, hce, hcv, vx_cls hW₁ hcl, st⟩
theorem vx_runS (S : CallFix p m c cc nL s args Ts own) (hM : vx_Met l y ws rm Pc Qc XC mc ms free) (cw : CallB R s args own index y bytes maxL ret ws rm mc ms n ∧ (Cond.static y).before args s = true) (hp : PreS s H Pc As)
    (hg : g.method = m) (hn : As.length = n) (hsize : g.locals.size = nL) (hstack : g.stack = As.reverse ++ rest) (hW : 2 * g.monitorRoom + (rest.map fun v => v.category).sum ≤ 8) (hdg : decode cc g.pc = .ok (.invokestatic index, 3)) (hf : cells + mc ≤ R.cells ∧ slots + ms ≤ R.slots) :
    vx_Run p l e R s m args below meth c H locs cells slots mc ms g rest (Qc As.toArray) XC free := by
  have hK : vx_Back l R p e below s args y 3 8 (PreOf R mc ms Pc) (PostOf Qc mc ms free) (vx_Post XC mc ms free) := vx_callBack cw.1 hM hp.1
  obtain ⟨⟨-, -, -, -, -, -, hcode, hini, hy, hlen, hl⟩, hstt⟩ := cw
  obtain ⟨hx, hb, hml, ho, -⟩ := S
  intro T hT X
  rcases vx_callS X hx (bytes := bytes) (maxL := maxL) (ret := ret) ho hl hstt hini hcode hy hK hg (hsize.trans hml.symm) (argsL := As) (rest := rest) (fun sig h => hn.trans (hlen sig h)) hstack hW (by rw [hb]; exact hdg)
    (fun vm₁ hW₁ => ⟨hf.1, hf.2, hp.2 (T.setVm vm₁) hT hW₁⟩) with ⟨v, vm₁, ⟨U', l2, c2, s2⟩, hW₁, X', ⟨g', mk, t, L, e1, e2, hq, h1, hL, h2, h3⟩, st⟩ | ⟨q, vm₁, ⟨U', l2, c2, s2⟩, hW₁, X', ⟨g', mk, t, L, E, ce, e1, e2, hq, hce, hcv, hcl, h1, hL, h2, h3⟩, st⟩
  · dsimp only [Pt.U, Pt.locs, Pt.cells, Pt.slots] at X' e1 e2 h1 h2 h3 st
    subst h1; subst h2; subst h3
    exact Or.inl ⟨v, (T.setVm vm₁).calling g' mk As.toArray, t, U', L, hT, X', hL, e1, e2, hq, st⟩
  · dsimp only [Pt.U, Pt.locs, Pt.cells, Pt.slots] at X' e1 e2 h1 h2 h3 st hcl
    subst h1; subst h2; subst h3
    exact Or.inr ⟨q, (T.setVm vm₁).calling g' mk As.toArray, t, U', L, E, ce, hT, X', hL, e1, e2, hq, hce, hcv, vx_cls hW₁ hcl, st⟩
end Runs
section Rows
variable {p : Program} {l : Launch} {e : Env} {R : Room} {s : State} {m : MethodId} {args : Array Value} {below : List Frame} {meth : Method} {c : Code} {H : Heap} {locs : List Loc} {cells slots : Nat} {Q : State → Prop}
variable {mc ms : Nat} {free : Addr → Prop} {A0 A1 : Nat → Prop} {H0 : Heap} {a : Array Value} {pc : Nat} {ls : Array Slot} {st0 rest : List Value}
theorem vx_keep {st₀ t T' : State} {L : List Loc} (h0 : st₀.heap = H) (e1 : T'.heap = t.heap) (hS : va_S A0 H0 H locs) (hA : ∀ q, q < H.size → A1 q → A0 q) (hf : ∀ q, free q → A0 q) (hL : ∀ q ∈ L, free q.base) (hF : va_F A1 st₀ t) :
    H.size ≤ T'.heap.size ∧ (∀ q : Nat, q < H.size → ¬ A1 q → T'.heap[q]? = H[q]?) ∧ va_S A0 H0 T'.heap (locs ++ L) := by
  obtain ⟨hz, hk⟩ := hF
  rw [h0] at hz hk
  exact ⟨by rw [e1]; exact hz, fun q h1 h2 => by rw [e1]; exact hk q h1 h2,
    ⟨Nat.le_trans hS.1 (by rw [e1]; exact hz), fun q h1 h2 => by rw [e1, hk q (Nat.lt_of_lt_of_le h1 hS.1) (fun z => h2 (hA q (Nat.lt_of_lt_of_le h1 hS.1) z))]; exact hS.2.1 q h1 h2, fun q hq => by
      rcases List.mem_append.mp hq with h | h
      · exact hS.2.2 q h
      · exact hf _ (hL q h)⟩⟩
theorem vx_calli {S SX : Type} {post : Int32 → S → Prop} {px : SX → Prop} {B : S → State → Prop} {BX : String → SX → State → Prop} {AX : Nat → Prop} (hr : vx_Run p l e R s m args below meth c H locs cells slots mc ms (F0 m pc ls st0) rest (va_Qi post B A1 a) (vx_X px BX AX) free) (hS : va_S A0 H0 H locs) (hA : ∀ q, q < H.size → A1 q → A0 q) (hf : ∀ q, free q → A0 q) (hAX : ∀ q, q < H.size → AX q → A0 q)
    (kx : ∀ (E : String) (ce : Cell) (q9 : Addr) (u : SX) (t : State) (H1 : Heap) (locs1 : List Loc), t.heap = H1 → s.vm.Alike t.vm → px u → BX E u t → H.size ≤ H1.size → (∀ q : Nat, q < H.size → ¬ AX q → H1[q]? = H[q]?) → va_S A0 H0 H1 locs1 → H1[q9]? = some ce → ce.vm = .none → s.vm.findClass E = some ce.cls → vx_W p l e R s m args below meth c H1 locs1 (cells + mc) (slots + ms) Q (F0 m pc ls rest) q9)
    (kk : ∀ (r : Int32) (u : S) (t : State) (H1 : Heap) (locs1 : List Loc), t.heap = H1 → s.vm.Alike t.vm → post r u → B u t → H.size ≤ H1.size → (∀ q : Nat, q < H.size → ¬ A1 q → H1[q]? = H[q]?) → va_S A0 H0 H1 locs1 → W p l e R s m args below meth c H1 locs1 (cells + mc) (slots + ms) Q (F0 m (pc + 3) ls (.int r :: rest))) : W p l e R s m args below meth c H locs cells slots Q (F0 m pc ls st0) := by
  intro T hT X
  rcases hr T hT X with ⟨v, st₀, t, T', L, h0, X', hL, e1, e2, ⟨⟨r, u, hv, hp, hb⟩, hF⟩, st⟩ | ⟨q, st₀, t, T', L, E, ce, h0, X', hL, e1, e2, ⟨u, hp, hb, hF⟩, hce, hcv, hcl, st⟩
  · cases hv
    obtain ⟨k1, k2, k3⟩ := vx_keep h0 e1 hS hA hf hL hF
    obtain ⟨t2, a1, b1⟩ := kk r u t T'.heap (locs ++ L) e1.symm (by rw [← e2]; exact X'.warmed.alike) hp hb k1 k2 k3 T' rfl X'
    exact ⟨t2, st t2 a1, b1⟩
  · obtain ⟨k1, k2, k3⟩ := vx_keep h0 e1 hS hAX hf hL hF
    obtain ⟨t2, a1, b1⟩ := kx E ce q u t T'.heap (locs ++ L) e1.symm (by rw [← e2]; exact X'.warmed.alike) hp hb k1 k2 k3 (by rw [e1]; exact hce) hcv hcl T' rfl X'
    exact ⟨t2, st.trans a1, b1⟩
theorem vx_calll {S SX : Type} {post : Int64 → S → Prop} {px : SX → Prop} {B : S → State → Prop} {BX : String → SX → State → Prop} {AX : Nat → Prop} (hr : vx_Run p l e R s m args below meth c H locs cells slots mc ms (F0 m pc ls st0) rest (va_Ql post B A1 a) (vx_X px BX AX) free) (hS : va_S A0 H0 H locs) (hA : ∀ q, q < H.size → A1 q → A0 q) (hf : ∀ q, free q → A0 q) (hAX : ∀ q, q < H.size → AX q → A0 q)
    (kx : ∀ (E : String) (ce : Cell) (q9 : Addr) (u : SX) (t : State) (H1 : Heap) (locs1 : List Loc), t.heap = H1 → s.vm.Alike t.vm → px u → BX E u t → H.size ≤ H1.size → (∀ q : Nat, q < H.size → ¬ AX q → H1[q]? = H[q]?) → va_S A0 H0 H1 locs1 → H1[q9]? = some ce → ce.vm = .none → s.vm.findClass E = some ce.cls → vx_W p l e R s m args below meth c H1 locs1 (cells + mc) (slots + ms) Q (F0 m pc ls rest) q9)
    (kk : ∀ (r : Int64) (u : S) (t : State) (H1 : Heap) (locs1 : List Loc), t.heap = H1 → s.vm.Alike t.vm → post r u → B u t → H.size ≤ H1.size → (∀ q : Nat, q < H.size → ¬ A1 q → H1[q]? = H[q]?) → va_S A0 H0 H1 locs1 → W p l e R s m args below meth c H1 locs1 (cells + mc) (slots + ms) Q (F0 m (pc + 3) ls (.long r :: rest))) : W p l e R s m args below meth c H locs cells slots Q (F0 m pc ls st0) := by
  intro T hT X
  rcases hr T hT X with ⟨v, st₀, t, T', L, h0, X', hL, e1, e2, ⟨⟨r, u, hv, hp, hb⟩, hF⟩, st⟩ | ⟨q, st₀, t, T', L, E, ce, h0, X', hL, e1, e2, ⟨u, hp, hb, hF⟩, hce, hcv, hcl, st⟩
  · cases hv
    obtain ⟨k1, k2, k3⟩ := vx_keep h0 e1 hS hA hf hL hF
    obtain ⟨t2, a1, b1⟩ := kk r u t T'.heap (locs ++ L) e1.symm (by rw [← e2]; exact X'.warmed.alike) hp hb k1 k2 k3 T' rfl X'
    exact ⟨t2, st t2 a1, b1⟩
  · obtain ⟨k1, k2, k3⟩ := vx_keep h0 e1 hS hAX hf hL hF
    obtain ⟨t2, a1, b1⟩ := kx E ce q u t T'.heap (locs ++ L) e1.symm (by rw [← e2]; exact X'.warmed.alike) hp hb k1 k2 k3 (by rw [e1]; exact hce) hcv hcl T' rfl X'
    exact ⟨t2, st.trans a1, b1⟩
theorem vx_callf {S SX : Type} {post : UInt32 → S → Prop} {px : SX → Prop} {B : S → State → Prop} {BX : String → SX → State → Prop} {AX : Nat → Prop} (hr : vx_Run p l e R s m args below meth c H locs cells slots mc ms (F0 m pc ls st0) rest (va_Qf post B A1 a) (vx_X px BX AX) free) (hS : va_S A0 H0 H locs) (hA : ∀ q, q < H.size → A1 q → A0 q) (hf : ∀ q, free q → A0 q) (hAX : ∀ q, q < H.size → AX q → A0 q)
    (kx : ∀ (E : String) (ce : Cell) (q9 : Addr) (u : SX) (t : State) (H1 : Heap) (locs1 : List Loc), t.heap = H1 → s.vm.Alike t.vm → px u → BX E u t → H.size ≤ H1.size → (∀ q : Nat, q < H.size → ¬ AX q → H1[q]? = H[q]?) → va_S A0 H0 H1 locs1 → H1[q9]? = some ce → ce.vm = .none → s.vm.findClass E = some ce.cls → vx_W p l e R s m args below meth c H1 locs1 (cells + mc) (slots + ms) Q (F0 m pc ls rest) q9)
    (kk : ∀ (r : UInt32) (u : S) (t : State) (H1 : Heap) (locs1 : List Loc), t.heap = H1 → s.vm.Alike t.vm → post r u → B u t → H.size ≤ H1.size → (∀ q : Nat, q < H.size → ¬ A1 q → H1[q]? = H[q]?) → va_S A0 H0 H1 locs1 → W p l e R s m args below meth c H1 locs1 (cells + mc) (slots + ms) Q (F0 m (pc + 3) ls (.float r :: rest))) : W p l e R s m args below meth c H locs cells slots Q (F0 m pc ls st0) := by
  intro T hT X
  rcases hr T hT X with ⟨v, st₀, t, T', L, h0, X', hL, e1, e2, ⟨⟨r, u, hv, hp, hb⟩, hF⟩, st⟩ | ⟨q, st₀, t, T', L, E, ce, h0, X', hL, e1, e2, ⟨u, hp, hb, hF⟩, hce, hcv, hcl, st⟩
  · cases hv
    obtain ⟨k1, k2, k3⟩ := vx_keep h0 e1 hS hA hf hL hF
    obtain ⟨t2, a1, b1⟩ := kk r u t T'.heap (locs ++ L) e1.symm (by rw [← e2]; exact X'.warmed.alike) hp hb k1 k2 k3 T' rfl X'
    exact ⟨t2, st t2 a1, b1⟩
  · obtain ⟨k1, k2, k3⟩ := vx_keep h0 e1 hS hAX hf hL hF
    obtain ⟨t2, a1, b1⟩ := kx E ce q u t T'.heap (locs ++ L) e1.symm (by rw [← e2]; exact X'.warmed.alike) hp hb k1 k2 k3 (by rw [e1]; exact hce) hcv hcl T' rfl X'
    exact ⟨t2, st.trans a1, b1⟩
theorem vx_calld {S SX : Type} {post : UInt64 → S → Prop} {px : SX → Prop} {B : S → State → Prop} {BX : String → SX → State → Prop} {AX : Nat → Prop} (hr : vx_Run p l e R s m args below meth c H locs cells slots mc ms (F0 m pc ls st0) rest (va_Qd post B A1 a) (vx_X px BX AX) free) (hS : va_S A0 H0 H locs) (hA : ∀ q, q < H.size → A1 q → A0 q) (hf : ∀ q, free q → A0 q) (hAX : ∀ q, q < H.size → AX q → A0 q)
    (kx : ∀ (E : String) (ce : Cell) (q9 : Addr) (u : SX) (t : State) (H1 : Heap) (locs1 : List Loc), t.heap = H1 → s.vm.Alike t.vm → px u → BX E u t → H.size ≤ H1.size → (∀ q : Nat, q < H.size → ¬ AX q → H1[q]? = H[q]?) → va_S A0 H0 H1 locs1 → H1[q9]? = some ce → ce.vm = .none → s.vm.findClass E = some ce.cls → vx_W p l e R s m args below meth c H1 locs1 (cells + mc) (slots + ms) Q (F0 m pc ls rest) q9)
    (kk : ∀ (r : UInt64) (u : S) (t : State) (H1 : Heap) (locs1 : List Loc), t.heap = H1 → s.vm.Alike t.vm → post r u → B u t → H.size ≤ H1.size → (∀ q : Nat, q < H.size → ¬ A1 q → H1[q]? = H[q]?) → va_S A0 H0 H1 locs1 → W p l e R s m args below meth c H1 locs1 (cells + mc) (slots + ms) Q (F0 m (pc + 3) ls (.double r :: rest))) : W p l e R s m args below meth c H locs cells slots Q (F0 m pc ls st0) := by
  intro T hT X
  rcases hr T hT X with ⟨v, st₀, t, T', L, h0, X', hL, e1, e2, ⟨⟨r, u, hv, hp, hb⟩, hF⟩, st⟩ | ⟨q, st₀, t, T', L, E, ce, h0, X', hL, e1, e2, ⟨u, hp, hb, hF⟩, hce, hcv, hcl, st⟩
  · cases hv
    obtain ⟨k1, k2, k3⟩ := vx_keep h0 e1 hS hA hf hL hF
    obtain ⟨t2, a1, b1⟩ := kk r u t T'.heap (locs ++ L) e1.symm (by rw [← e2]; exact X'.warmed.alike) hp hb k1 k2 k3 T' rfl X'
    exact ⟨t2, st t2 a1, b1⟩
  · obtain ⟨k1, k2, k3⟩ := vx_keep h0 e1 hS hAX hf hL hF
    obtain ⟨t2, a1, b1⟩ := kx E ce q u t T'.heap (locs ++ L) e1.symm (by rw [← e2]; exact X'.warmed.alike) hp hb k1 k2 k3 (by rw [e1]; exact hce) hcv hcl T' rfl X'
    exact ⟨t2, st.trans a1, b1⟩
theorem vx_callv {S SX : Type} {post : S → Prop} {px : SX → Prop} {B : S → State → Prop} {BX : String → SX → State → Prop} {AX : Nat → Prop} (hr : vx_Run p l e R s m args below meth c H locs cells slots mc ms (F0 m pc ls st0) rest (va_Qv post B A1 a) (vx_X px BX AX) free) (hS : va_S A0 H0 H locs) (hA : ∀ q, q < H.size → A1 q → A0 q) (hf : ∀ q, free q → A0 q) (hAX : ∀ q, q < H.size → AX q → A0 q)
    (kx : ∀ (E : String) (ce : Cell) (q9 : Addr) (u : SX) (t : State) (H1 : Heap) (locs1 : List Loc), t.heap = H1 → s.vm.Alike t.vm → px u → BX E u t → H.size ≤ H1.size → (∀ q : Nat, q < H.size → ¬ AX q → H1[q]? = H[q]?) → va_S A0 H0 H1 locs1 → H1[q9]? = some ce → ce.vm = .none → s.vm.findClass E = some ce.cls → vx_W p l e R s m args below meth c H1 locs1 (cells + mc) (slots + ms) Q (F0 m pc ls rest) q9)
    (kk : ∀ (u : S) (t : State) (H1 : Heap) (locs1 : List Loc), t.heap = H1 → s.vm.Alike t.vm → post u → B u t → H.size ≤ H1.size → (∀ q : Nat, q < H.size → ¬ A1 q → H1[q]? = H[q]?) → va_S A0 H0 H1 locs1 → W p l e R s m args below meth c H1 locs1 (cells + mc) (slots + ms) Q (F0 m (pc + 3) ls (rest))) : W p l e R s m args below meth c H locs cells slots Q (F0 m pc ls st0) := by
  intro T hT X
  rcases hr T hT X with ⟨v, st₀, t, T', L, h0, X', hL, e1, e2, ⟨⟨u, hv, hp, hb⟩, hF⟩, st⟩ | ⟨q, st₀, t, T', L, E, ce, h0, X', hL, e1, e2, ⟨u, hp, hb, hF⟩, hce, hcv, hcl, st⟩
  · cases hv
    obtain ⟨k1, k2, k3⟩ := vx_keep h0 e1 hS hA hf hL hF
    obtain ⟨t2, a1, b1⟩ := kk u t T'.heap (locs ++ L) e1.symm (by rw [← e2]; exact X'.warmed.alike) hp hb k1 k2 k3 T' rfl X'
    exact ⟨t2, st t2 a1, b1⟩
  · obtain ⟨k1, k2, k3⟩ := vx_keep h0 e1 hS hAX hf hL hF
    obtain ⟨t2, a1, b1⟩ := kx E ce q u t T'.heap (locs ++ L) e1.symm (by rw [← e2]; exact X'.warmed.alike) hp hb k1 k2 k3 (by rw [e1]; exact hce) hcv hcl T' rfl X'
    exact ⟨t2, st.trans a1, b1⟩
/-- caught by the row x of this method's table; the rows ahead don't take it -/
theorem vx_catch {own name : String} {E : String} {ce : Cell} {q : Addr} (hown : s.vm.findClass own = some m.cls) (pre : List ExceptionTableEntry) (x : ExceptionTableEntry) (suf : List ExceptionTableEntry) (hsplit : c.exceptionTable.toList = pre ++ x :: suf)
    (hpass : ∀ z ∈ pre, covers z pc = false ∨ (z.catchType ≠ 0 ∧ ∃ nm : String, (Cond.classLink own z.catchType nm).before args s = true ∧ va_Nc E nm s)) (hx : covers x pc = true) (h0 : x.catchType ≠ 0)
    (hlink : (Cond.classLink own x.catchType name).before args s = true) (hcast : (Cond.castable E name).before args s = true) (hcell : H[q]? = some ce) (hv : ce.vm = .none) (hcl : s.vm.findClass E = some ce.cls)
    (kk : W p l e R s m args below meth c H locs cells slots Q (F0 m x.handlerPc ls [.ref q])) : vx_W p l e R s m args below meth c H locs cells slots Q (F0 m pc ls rest) q := by
  intro T hT X
  have hpl : e.platform.magicAccessors = ({} : Platform).magicAccessors := by rw [X.admits.platform]
  obtain ⟨c3, c4, hc3, hc4, hasg⟩ := Cond.castable_spec hcast
  cases Option.some.inj (hc3.symm.trans hcl)
  obtain ⟨c5, hc5, hcl5⟩ := Cond.classLink_spec hown hlink e.platform hpl
  cases Option.some.inj (hc4.symm.trans hc5)
  obtain ⟨vm', X', st⟩ := X.thenCaughtThrough q (g := F0 m pc ls rest) rfl (Steps.refl _) (by rw [hT]; exact hcell) (by rw [hv]; rfl) (by obtain ⟨k9, h9, -⟩ := Vm.findClass_spec hcl; exact ⟨k9, h9⟩) pre x suf hsplit
    (fun z hz => by
      rcases hpass z hz with h | ⟨hz0, nm, hl1, hn1⟩
      · exact Or.inl h
      · obtain ⟨c6, hc6, hcl6⟩ := Cond.classLink_spec hown hl1 e.platform hpl
        obtain ⟨a8, b8, h1, h2, h3⟩ := hn1
        cases Option.some.inj (h1.symm.trans hcl)
        cases Option.some.inj (h2.symm.trans hc6)
        exact Or.inr ⟨hz0, _, hcl6, h3⟩) hx (Or.inr ⟨h0, c4, hcl5, hasg⟩)
  obtain ⟨t, a1, b1⟩ := kk (T.setVm vm') hT X'
  exact ⟨t, st.trans a1, b1⟩
end Rows
section Ends
variable {p : Program} {l : Launch} {e : Env} {R : Room} {s : State} {m : MethodId} {args : Array Value} {below : List Frame} {meth : Method} {c : Code} {H : Heap} {locs : List Loc} {cells slots : Nat} {Q : State → Prop}
variable {mc ms : Nat} {free : Addr → Prop} {A0 A1 : Nat → Prop} {H0 : Heap} {a : Array Value} {ls : Array Slot} {st0 rest : List Value}
variable {Qc : Array Value → State → Outcome → State → Prop} {XC : String → State → State → Prop}
/-- what a body that may throw owes at its end -/
def vx_MQ (below : List Frame) (Qc : Array Value → State → Outcome → State → Prop) (XC : String → State → State → Prop) (a : Array Value) (s : State) (mc ms : Nat) (free : Addr → Prop) : State → Prop := fun t =>
  ∃ o, t.status = .running ∧ Ended t below o ∧ vx_Q Qc XC mc ms free a s o t
theorem vx_ret {g : JFrame} {mc ms : Nat} (k : W p l e R s m args below meth c H locs cells slots (MQ below Qc args s mc ms free) g) : W p l e R s m args below meth c H locs cells slots (vx_MQ below Qc XC args s mc ms free) g := by
  intro T hT X
  obtain ⟨t, a1, o, b1, b2, b3, b4⟩ := k T hT X
  exact ⟨t, a1, o, b1, b2, Or.inl ⟨b3, b4⟩⟩
/-- not caught here: it goes on to the caller -/
theorem vx_widen {g : JFrame} {q : Addr} {k n : Nat} (h1 : cells ≤ k) (h2 : slots ≤ n) (kk : vx_W p l e R s m args below meth c H locs k n Q g q) : vx_W p l e R s m args below meth c H locs cells slots Q g q := fun T hT X => kk T hT (stand_widen X h1 h2)
theorem vx_out {pc : Nat} {E : String} {ce : Cell} {q : Addr} {mc ms : Nat} (hout : ∀ x ∈ c.exceptionTable.toList, covers x pc = false) (hlocks : meth.locks = false) (hcell : H[q]? = some ce) (hv : ce.vm = .none) (hcl : s.vm.findClass E = some ce.cls)
    (hx : ∀ t : State, t.heap = H → s.vm.Alike t.vm → XC E s t) (hf : ∀ z ∈ locs, free z.base) (hc : cells ≤ mc) (hs : slots ≤ ms) :
    vx_W p l e R s m args below meth c H locs cells slots (vx_MQ below Qc XC args s mc ms free) (F0 m pc ls rest) q := by
  intro T hT X
  obtain ⟨st1, hrun, hend, hW, hsm⟩ := X.leaveThrown q (g := F0 m pc ls rest) rfl rfl rfl hout hlocks
  have hcell9 : (T.setFrames (.throwing q :: below)).heap[q]? = some ce := by
    show T.heap[q]? = some ce
    rw [hT]; exact hcell
  exact ⟨_, st1, .threw q, hrun, hend, Or.inr ⟨q, rfl, E, ce, locs, hx _ hT hW.alike, hcell9, hv, hcl, hW, hsm.mono hc hs, hf⟩⟩
theorem vx_frame {U : State} {k n : Nat} (h : s.sameButNew ({ U with vm := s.vm } : State) locs k n) : s.heap.size ≤ U.heap.size ∧ ∀ q : Nat, q < s.heap.size → (∀ z ∈ locs, z.base ≠ q) → U.heap[q]? = s.heap[q]? := by
  obtain ⟨-, h2, -, -, -, h6⟩ := h
  refine ⟨h2, fun q hq hz => ?_⟩
  obtain ⟨c9, e1, e2, e3, e4⟩ := h6 q _ (Array.getElem?_eq_getElem hq)
  have hs : c9.slots = (s.heap[q]).slots := Array.ext_getElem? fun i => e4 i fun hm => hz _ hm rfl
  have h9 : c9 = s.heap[q] := by
    rw [hs] at e2
    exact e2
  have e5 : U.heap[q]? = some c9 := e1
  rw [e5, h9, Array.getElem?_eq_getElem hq]
/-- the words of a throw but the four that speak of the heap -/
def vx_no (w : Cond) : Bool := decide (w ≠ .isRef (.static Bundle.tN "UNASSIGNED_STACK" Bundle.steD)) && decide (w ≠ .isRef (.static Bundle.tN "SUPPRESSED_SENTINEL" Bundle.listD)) && decide (w ≠ .laysStatic Bundle.tN "UNASSIGNED_STACK" Bundle.steD) && decide (w ≠ .laysStatic Bundle.tN "SUPPRESSED_SENTINEL" Bundle.listD)
def vx_at0 (own : String) (ic : Nat) (X : String) (names : List String) : List Cond := (Bundle.ownAtoms0 own ic X names).filter vx_no
def vx_atS (own : String) (ic : Nat) (X : String) (names : List String) : List Cond := (Bundle.ownAtoms own ic X names).filter vx_no
/-- a word that the tables alone decide, or a good one -/
def vx_ot (w : Cond) : Bool := w.onTables || goodWord w
theorem vx_ot_at {args a' : Array Value} {s U : State} {w : Cond} (hW : s.WarmedH U.vm) (hvm : s.vm = U.vm) (hg : vx_ot w = true) (h : w.before args s = true) : w.before a' U = true := by
  simp only [vx_ot, Bool.or_eq_true] at hg
  rcases hg with hg | hg
  · exact va_tabs hg hvm h
  · exact word_at hW (good_of_word hg) h
/-- a list's words: the good ones out of the method's own list, the others by premises of their own -/
theorem vx_hat {args : Array Value} {s : State} {L B : List Cond} (h1 : ∀ w ∈ L.filter goodWord, w.before args s = true) (h2 : ∀ w ∈ L.filter (fun w => !goodWord w), w ∈ B) (h3 : ∀ w ∈ B, w.before args s = true) : ∀ w ∈ L, w.before args s = true := by
  intro w hw
  by_cases g : goodWord w = true
  · exact h1 w (List.mem_filter.mpr ⟨hw, g⟩)
  · refine h3 w (h2 w (List.mem_filter.mpr ⟨hw, ?_⟩))
    show (!goodWord w) = true
    cases hgw : goodWord w
    · rfl
    · exact absurd hgw g
theorem vx_c {args : Array Value} {s : State} {w : Cond} {B : List Cond} (h : w.before args s = true) (t : ∀ w ∈ B, w.before args s = true) : ∀ w' ∈ w :: B, w'.before args s = true := fun w' h' => (List.mem_cons.mp h').elim (fun e => by rw [e]; exact h) (t w')
theorem vx_n {args : Array Value} {s : State} : ∀ w ∈ ([] : List Cond), w.before args s = true := fun _ h => nomatch h
theorem vx_own {args : Array Value} {s : State} {L : List Cond} (h1 : ∀ w ∈ L.filter vx_no, w.before args s = true)
    (hU : (Cond.isRef (.static Bundle.tN "UNASSIGNED_STACK" Bundle.steD)).before args s = true) (hN : (Cond.isRef (.static Bundle.tN "SUPPRESSED_SENTINEL" Bundle.listD)).before args s = true)
    (lU : (Cond.laysStatic Bundle.tN "UNASSIGNED_STACK" Bundle.steD).before args s = true) (lN : (Cond.laysStatic Bundle.tN "SUPPRESSED_SENTINEL" Bundle.listD).before args s = true) : ∀ w ∈ L, w.before args s = true := by
  intro w hw
  by_cases e1 : w = .isRef (.static Bundle.tN "UNASSIGNED_STACK" Bundle.steD)
  · rw [e1]; exact hU
  · by_cases e2 : w = .isRef (.static Bundle.tN "SUPPRESSED_SENTINEL" Bundle.listD)
    · rw [e2]; exact hN
    · by_cases e3 : w = .laysStatic Bundle.tN "UNASSIGNED_STACK" Bundle.steD
      · rw [e3]; exact lU
      · by_cases e4 : w = .laysStatic Bundle.tN "SUPPRESSED_SENTINEL" Bundle.listD
        · rw [e4]; exact lN
        · exact h1 w (List.mem_filter.mpr ⟨hw, by unfold vx_no; rw [decide_eq_true e1, decide_eq_true e2, decide_eq_true e3, decide_eq_true e4]; rfl⟩)
/-- where a static field lies, its class's statics cell in H -/
def vx_L (C n d : String) (A : Nat → Prop) (U : State) (H : Heap) : Prop := ∃ (c : ClassId) (k : Class) (i : Nat) (f : Field) (a : Nat) (cell : Cell), U.vm.findClass C = some c ∧ U.fieldFound? C n d = some (c, k, i, f) ∧ f.isStatic = true ∧ k.statics = some a ∧ H[a]? = some cell ∧ cell.vm.isStatics = true ∧ cell.cls = c ∧ f.slot < cell.slots.size ∧ k.staticTypes[f.slot]? = some f.type ∧ ¬ A a
theorem vx_L.moved {C n d : String} {A : Nat → Prop} {u U : State} {H : Heap} (hvm : u.vm.Alike U.vm) (h : vx_L C n d A u H) : vx_L C n d A U H := by
  obtain ⟨c, k, i, f, a, cell, h1, h2, h3, h4, h5, h6, h7, h8, h9, h10⟩ := h
  obtain ⟨k', hi', he⟩ := State.fieldFound?_setVm hvm h2
  exact ⟨c, k', i, f, a, cell, by rw [hvm.findClass]; exact h1, hi', h3, by rw [he]; exact h4, h5, h6, h7, h8, by rw [he]; exact h9, h10⟩
theorem vx_L.kept {C n d : String} {A : Nat → Prop} {U : State} {H H1 : Heap} (h : vx_L C n d A U H) (hq : ∀ a : Nat, a < H.size → ¬ A a → H1[a]? = H[a]?) : vx_L C n d A U H1 := by
  obtain ⟨c, k, i, f, a, cell, h1, h2, h3, h4, h5, h6, h7, h8, h9, h10⟩ := h
  exact ⟨c, k, i, f, a, cell, h1, h2, h3, h4, by rw [hq a (Array.getElem?_eq_some_iff.mp h5).1 h10]; exact h5, h6, h7, h8, h9, h10⟩
theorem vx_L.narrow {C n d : String} {A B : Nat → Prop} {U : State} {H : Heap} (h : vx_L C n d A U H) (hAB : ∀ q, B q → A q) : vx_L C n d B U H := by
  obtain ⟨c, k, i, f, a, cell, h1, h2, h3, h4, h5, h6, h7, h8, h9, h10⟩ := h
  exact ⟨c, k, i, f, a, cell, h1, h2, h3, h4, h5, h6, h7, h8, h9, fun z => h10 (hAB _ z)⟩
theorem vx_L.word {C n d : String} {A : Nat → Prop} {s : State} {args : Array Value} (h : vx_L C n d A s s.heap) : (Cond.laysStatic C n d).before args s = true := by
  obtain ⟨c, k, i, f, a, cell, h1, h2, h3, h4, h5, h6, h7, h8, h9, -⟩ := h
  show (Cond.laysStatic C n d).holds args s none s [] = true
  exact Cond.laysStatic_of h1 h2 h3 h4 h5 h6 h7 h8 h9
/-- .. and what it holds: null or some reference -/
def vx_Zq (C n d : String) (A : Nat → Prop) (U : State) (H : Heap) : Prop := va_Zq C n d A U H ∧ vx_L C n d A U H
theorem vx_Zq.moved {C n d : String} {A : Nat → Prop} {u U : State} {H : Heap} (hvm : u.vm.Alike U.vm) (h : vx_Zq C n d A u H) : vx_Zq C n d A U H := ⟨va_Zq.moved hvm h.1, vx_L.moved hvm h.2⟩
theorem vx_Zq.kept {C n d : String} {A : Nat → Prop} {U : State} {H H1 : Heap} (h : vx_Zq C n d A U H) (hq : ∀ a : Nat, a < H.size → ¬ A a → H1[a]? = H[a]?) : vx_Zq C n d A U H1 := ⟨va_Zq.kept h.1 hq, vx_L.kept h.2 hq⟩
theorem vx_Zq.narrow {C n d : String} {A B : Nat → Prop} {U : State} {H : Heap} (h : vx_Zq C n d A U H) (hAB : ∀ q, B q → A q) : vx_Zq C n d B U H := ⟨va_Zq.narrow h.1 hAB, vx_L.narrow h.2 hAB⟩
theorem vx_Zqof {args : Array Value} {s : State} {C n d : String} {A : Nat → Prop} (hl : (Cond.laysStatic C n d).before args s = true) (hini : (Cond.initialized C).before args s = true) (h : (Cond.isRef (.static C n d)).before args s = true) (hA : ∀ a : Nat, a < s.heap.size → ¬ A a) : vx_Zq C n d A s s.heap := by
  refine ⟨va_Zqof hl hini h hA, ?_⟩
  obtain ⟨c, k, i, f, a, cell, h1, h2, h3, h4, h5, h6, h7, h8, h9⟩ := Cond.laysStatic_spec hl
  exact ⟨c, k, i, f, a, cell, h1, h2, h3, h4, h5, h6, h7, h8, h9, hA a (Array.getElem?_eq_some_iff.mp h5).1⟩
theorem vx_isRef {C n d : String} {v : Value} {A : Nat → Prop} {s : State} {args : Array Value} (h : va_Z C n d v A s s.heap) (hv : v.isRef = true) : (Cond.isRef (.static C n d)).before args s = true := by
  obtain ⟨cf, kf, fi, f, a, cell, h1, h2, h3, h4, h5, h6, h7, -⟩ := h
  have he : (Term.static C n d).eval args s none [] s = some v := by
    simp [Term.eval, State.fieldNamed?, h1, h2, h4, h5, h6, h7]
  simp only [Cond.before, Cond.holds, Cond.value, he]
  cases v <;> simp_all [Value.isRef]
theorem vx_isRefq {C n d : String} {A : Nat → Prop} {s : State} {args : Array Value} (h : va_Zq C n d A s s.heap) : (Cond.isRef (.static C n d)).before args s = true := by
  rcases h with h | ⟨t, h⟩
  · exact vx_isRef h rfl
  · exact vx_isRef h rfl
/-- the same frame, seen from here: as if the method were called anew in this heap -/
theorem vx_rebase {T : State} (X : Stand p l e R s m args below meth c T locs cells slots) {R' : Room} (hf : R'.frames ≤ R.frames) (hl : R'.locals ≤ R.locals) (hc : cells + R'.cells ≤ R.cells) (hs : slots + R'.slots ≤ R.slots) :
    Stand p l e R' ((T.setVm s.vm).setFrames (.invoking m args :: below)) m args below meth c T [] 0 0 := by
  have htop : (T.setVm s.vm).topJava?.isSome := X.here.top
  have hF : ((T.setVm s.vm).setFrames (.invoking m args :: below)).frames = .invoking m args :: below := State.frames_setFrames _ (State.cur_lt_of_top htop)
  obtain ⟨g₀, hg0⟩ := Option.isSome_iff_exists.mp htop
  obtain ⟨r, hr⟩ := State.topJava?_eq_some.mp hg0
  have hl9 : e.platform.stackLimits (T.setVm s.vm).me = e.platform.stackLimits s.me := X.limits
  have hb9 : (T.setVm s.vm).me.stackBytes = s.me.stackBytes := X.bytes
  refine ⟨X.admits, X.cas, X.clock, hF, ?_, X.hears, X.method, X.code, X.here, X.tail, X.warmed, ?_, ?_, ?_⟩
  · have h := X.room
    have hU : ((T.setVm s.vm).setFrames (.invoking m args :: below)).localsInUse = s.localsInUse := by
      rw [State.localsInUse_invoking hF (meth := meth) (c := c) X.method X.code, State.localsInUse_invoking X.frames X.method X.code]
    simp only [State.hasRoom, Bool.and_eq_true, decide_eq_true_eq] at h ⊢
    obtain ⟨⟨⟨⟨h1, h2, h3, h4, h5, h6⟩, h7⟩, h8⟩, h9⟩ := h
    rw [X.frames, List.length_cons] at h2 h3
    have q1 := X.heapSize
    have q2 := X.used
    simp only [hF, hU, List.length_cons, State.stackLimits_setFrames, State.stackBytes_setFrames, hl9, hb9]
    refine ⟨⟨⟨⟨by omega, by omega, by omega, by omega, by omega, h6⟩, ?_⟩, ?_⟩, X.book⟩
    · show T.heap.size + R'.cells ≤ e.platform.maxCells
      omega
    · show T.slotsUsed + R'.slots ≤ e.platform.maxSlots
      omega
  · rw [State.stackLimits_setFrames]; rfl
  · rw [State.stackBytes_setFrames]; rfl
  · refine ⟨?_, Nat.le_refl _, Nat.le_refl _, ?_, ?_, fun a c9 h9 => ⟨c9, h9, rfl, rfl, fun _ _ => rfl⟩⟩
    · obtain ⟨t, ht, -⟩ := State.frames_cons hr
      show T.setVm s.vm = { ((T.setVm s.vm).setFrames (.invoking m args :: below)).setFrames (T.setVm s.vm).frames with heap := T.heap, slotsUsed := T.slotsUsed }
      rw [State.setFrames_setFrames, State.setFrames_self ht]
      rfl
    · show T.slotsUsed = T.slotsUsed + ((T.heap.toList.drop T.heap.size).map (·.slots.size)).sum
      rw [List.drop_eq_nil_of_le (Nat.le_of_eq Array.length_toList)]
      rfl
    · show ((T.heap.toList.drop T.heap.size).map (·.slots.size)).sum ≤ 0
      rw [List.drop_eq_nil_of_le (Nat.le_of_eq Array.length_toList)]
      exact Nat.le_refl _
/-- 'throw new E()': new; dup; invokespecial; athrow -/
theorem vx_throw0 {cc : ByteArray} {pc : Nat} (hexec : p.tables.exec = Jvm.exec) (hb : c.code = cc) (hl : l.stackTraces = false) {own cls : String} {names : List String} {ik ic mc ms : Nat} {A : Nat → Prop}
    (hown : s.vm.findClass own = some m.cls) (hcls : Bundle.fit cls = true) (hnames : ∀ n ∈ names, Bundle.fit n = true)
    (hk : (Cond.classLink own ik cls).before args s = true) (hini : (Cond.initialized cls).before args s = true) (hat : ∀ w ∈ vx_at0 own ic cls names, w.before args s = true)
    (hgood : ∀ w ∈ Cond.classLink own ik cls :: Cond.initialized cls :: vx_at0 own ic cls names, vx_ot w = true)
    (hU : vx_Zq Bundle.tN "UNASSIGNED_STACK" Bundle.steD A s s.heap) (hN : vx_Zq Bundle.tN "SUPPRESSED_SENTINEL" Bundle.listD A s s.heap) (hS : va_S A s.heap H locs) (hsize : ls.size = c.maxLocals)
    (d0 : decode cc pc = .ok (.new ik, 3)) (d3 : decode cc (pc + 3) = .ok (.dup, 1)) (d4 : decode cc (pc + 4) = .ok (.invokespecial ic, 3)) (d7 : decode cc (pc + 7) = .ok (.athrow, 1))
    (hout : ∀ x ∈ c.exceptionTable.toList, covers x (pc + 7) = false)
    (hRframes : names.length + 3 < R.frames) (hRlocals : (rest.map fun v => v.category).sum + (13 * (names.length + 1) + 42) ≤ R.locals) (hRcells : cells + 1 ≤ R.cells) (hRslots : slots + 6 ≤ R.slots) (hlocks : meth.locks = false)
    (hx : ∀ t : State, s.vm.Alike t.vm → H.size ≤ t.heap.size → (∀ q : Nat, q < H.size → t.heap[q]? = H[q]?) → XC cls s t)
    (hf : ∀ z ∈ locs, free z.base) (hc : cells + 1 ≤ mc) (hs : slots + 6 ≤ ms) :
    W p l e R s m args below meth c H locs cells slots (vx_MQ below Qc XC args s mc ms free) (F0 m pc ls rest) := by
  intro T hT X
  have htr : e.platform.stackTraces = false := (show e.platform.stackTraces = l.stackTraces by rw [X.admits.platform]).trans hl
  have Y := vx_rebase X (R' := { frames := R.frames, locals := R.locals, cells := 1, slots := 6 }) (Nat.le_refl _) (Nat.le_refl _) hRcells hRslots
  obtain ⟨s', hA⟩ : ∃ z, z = (T.setVm s.vm).setFrames (.invoking m args :: below) := ⟨_, rfl⟩
  rw [← hA] at Y
  have hvm : s'.vm = s.vm := by rw [hA]; rfl
  have hhp : s'.heap = H := by rw [hA]; exact hT
  have hW0 : s.WarmedH s'.vm := by rw [hvm]; exact State.WarmedH.refl s
  have hat' : ∀ w ∈ vx_at0 own ic cls names, w.before args s' = true := fun w hw => vx_ot_at hW0 hvm.symm (hgood w (List.mem_cons_of_mem _ (List.mem_cons_of_mem _ hw))) (hat w hw)
  have hk' : (Cond.classLink own ik cls).before args s' = true := vx_ot_at hW0 hvm.symm (hgood _ List.mem_cons_self) hk
  have hini' : (Cond.initialized cls).before args s' = true := vx_ot_at hW0 hvm.symm (hgood _ (List.mem_cons_of_mem _ List.mem_cons_self)) hini
  have hU' : vx_Zq Bundle.tN "UNASSIGNED_STACK" Bundle.steD A s' s'.heap := by rw [hhp]; exact vx_Zq.moved hW0.alike (hU.kept hS.2.1)
  have hN' : vx_Zq Bundle.tN "SUPPRESSED_SENTINEL" Bundle.listD A s' s'.heap := by rw [hhp]; exact vx_Zq.moved hW0.alike (hN.kept hS.2.1)
  have h : ∀ w ∈ Bundle.ownAtoms0 own ic cls names, w.before args s' = true := vx_own hat' (vx_isRefq hU'.1) (vx_isRefq hN'.1) hU'.2.word hN'.2.word
  have hown' : s'.vm.findClass own = some m.cls := by rw [hvm]; exact hown
  have hins : (Cond.instantiable cls 6).before args s' = true := h _ (by simp [Bundle.ownAtoms0])
  obtain ⟨vm₁, cX, kX, hfX, hkX, -, -, X₁, st1⟩ := Y.newCold hexec (own := own) (C := cls) (index := ik) (n := 6) hown' hk' hins hini'
    (g := F0 m pc ls rest) rfl (by rw [hb]; exact d0) (Nat.le_refl _) (Nat.le_refl _)
  generalize hT1 : (T.setVm vm₁).pushCell { cls := cX, slots := kX.instanceTypes.map defaultValue, vm := .none } = T1 at X₁ st1
  have hcat : (Value.ref T.heap.size).category = 1 := rfl
  have hcellA : T1.heap[T.heap.size]? = some (freshCell cX kX) := by rw [← hT1]; exact State.heap_pushCell_size _ _
  have d3' : decode c.code (pc + 3) = .ok (.dup, 1) := by rw [hb]; exact d3
  obtain ⟨U, hsteps, hrun, hend, hW, hsame, ce, hce, hO⟩ := X₁.ctorThrow0 hexec htr (own := own) (cls := cls) (names := names) (ic := ic) hown' hcls hnames h (fun x hx => nomatch hx) hfX hkX hcellA (by rw [hhp, hT]; exact Nat.le_refl _)
    (g := { method := m, pc := pc + 4, locals := ls, stack := .ref T.heap.size :: .ref T.heap.size :: rest, locked := none }) rfl hsize rfl rfl (rest := rest) rfl
    (by rw [hb]; exact d4) (by rw [hb]; exact d7) hout hRframes (by simp only [List.map_cons, List.sum_cons, hcat]; omega) hlocks
  obtain ⟨f1, f2⟩ := vx_frame hsame
  rw [hhp] at f1 f2
  have hWs : s.WarmedH U.vm := State.WarmedH.trans hW0 hW
  have hcl : s.vm.findClass cls = some ce.cls := by
    have h9 := hO.cls
    rw [hvm] at h9
    exact h9
  have hall : s.sameButNew ({ U with vm := s.vm } : State) locs mc ms := by
    subst hA
    obtain ⟨e1, e2⟩ := hsame
    rw [State.setFrames_setFrames] at e1
    have h2 : (T.setVm s.vm).sameButNew ({ U with vm := s.vm } : State) [] (0 + 1) (0 + 6) := ⟨e1, e2⟩
    have h3 := X.same.trans h2
    rw [List.append_nil] at h3
    exact h3.mono hc hs
  refine ⟨U, ?_, .threw T.heap.size, hrun, hend, Or.inr ⟨T.heap.size, rfl, cls, ce, locs, hx U hWs.alike f1 (fun q hq => f2 q hq (fun z hz => nomatch hz)), hce, hO.vm, hcl, hWs, hall, hf⟩⟩
  refine st1 _ ?_
  show Steps p.tables e below (T1.setTop { method := m, pc := pc + 3, locals := ls, stack := .ref T.heap.size :: rest, locked := none }) _
  jvm_step X₁.here [X₁.here.top, hexec, d3', Value.category]
  exact hsteps
/-- 'throw new E("text")': new; dup; ldc; invokespecial; athrow -/
theorem vx_throwS {cc : ByteArray} {pc : Nat} (hexec : p.tables.exec = Jvm.exec) (hb : c.code = cc) (hl : l.stackTraces = false) {own cls text : String} {names : List String} {ik is ic mc ms sa : Nat} {A : Nat → Prop}
    (hown : s.vm.findClass own = some m.cls) (hcls : Bundle.fit cls = true) (hnames : ∀ n ∈ names, Bundle.fit n = true)
    (hk : (Cond.classLink own ik cls).before args s = true) (hini : (Cond.initialized cls).before args s = true) (hstr : vk_R own is text sa s) (hat : ∀ w ∈ vx_atS own ic cls names, w.before args s = true)
    (hgood : ∀ w ∈ Cond.classLink own ik cls :: Cond.initialized cls :: vx_atS own ic cls names, vx_ot w = true)
    (hU : vx_Zq Bundle.tN "UNASSIGNED_STACK" Bundle.steD A s s.heap) (hN : vx_Zq Bundle.tN "SUPPRESSED_SENTINEL" Bundle.listD A s s.heap) (hS : va_S A s.heap H locs) (hsize : ls.size = c.maxLocals)
    (d0 : decode cc pc = .ok (.new ik, 3)) (d3 : decode cc (pc + 3) = .ok (.dup, 1)) (d4 : decode cc (pc + 4) = .ok (.ldc is, 2)) (d6 : decode cc (pc + 6) = .ok (.invokespecial ic, 3)) (d9 : decode cc (pc + 9) = .ok (.athrow, 1))
    (hout : ∀ x ∈ c.exceptionTable.toList, covers x (pc + 9) = false)
    (hRframes : names.length + 3 < R.frames) (hRlocals : (rest.map fun v => v.category).sum + (13 * (names.length + 1) + 43) ≤ R.locals) (hRcells : cells + 1 ≤ R.cells) (hRslots : slots + 6 ≤ R.slots) (hlocks : meth.locks = false)
    (hx : ∀ t : State, s.vm.Alike t.vm → H.size ≤ t.heap.size → (∀ q : Nat, q < H.size → t.heap[q]? = H[q]?) → XC cls s t)
    (hf : ∀ z ∈ locs, free z.base) (hc : cells + 1 ≤ mc) (hs : slots + 6 ≤ ms) :
    W p l e R s m args below meth c H locs cells slots (vx_MQ below Qc XC args s mc ms free) (F0 m pc ls rest) := by
  intro T hT X
  have htr : e.platform.stackTraces = false := (show e.platform.stackTraces = l.stackTraces by rw [X.admits.platform]).trans hl
  have Y := vx_rebase X (R' := { frames := R.frames, locals := R.locals, cells := 1, slots := 6 }) (Nat.le_refl _) (Nat.le_refl _) hRcells hRslots
  obtain ⟨s', hA⟩ : ∃ z, z = (T.setVm s.vm).setFrames (.invoking m args :: below) := ⟨_, rfl⟩
  rw [← hA] at Y
  have hvm : s'.vm = s.vm := by rw [hA]; rfl
  have hhp : s'.heap = H := by rw [hA]; exact hT
  have hW0 : s.WarmedH s'.vm := by rw [hvm]; exact State.WarmedH.refl s
  have hat' : ∀ w ∈ vx_atS own ic cls names, w.before args s' = true := fun w hw => vx_ot_at hW0 hvm.symm (hgood w (List.mem_cons_of_mem _ (List.mem_cons_of_mem _ hw))) (hat w hw)
  have hk' : (Cond.classLink own ik cls).before args s' = true := vx_ot_at hW0 hvm.symm (hgood _ List.mem_cons_self) hk
  have hini' : (Cond.initialized cls).before args s' = true := vx_ot_at hW0 hvm.symm (hgood _ (List.mem_cons_of_mem _ List.mem_cons_self)) hini
  have hU' : vx_Zq Bundle.tN "UNASSIGNED_STACK" Bundle.steD A s' s'.heap := by rw [hhp]; exact vx_Zq.moved hW0.alike (hU.kept hS.2.1)
  have hN' : vx_Zq Bundle.tN "SUPPRESSED_SENTINEL" Bundle.listD A s' s'.heap := by rw [hhp]; exact vx_Zq.moved hW0.alike (hN.kept hS.2.1)
  have h : ∀ w ∈ Bundle.ownAtoms own ic cls names, w.before args s' = true := vx_own hat' (vx_isRefq hU'.1) (vx_isRefq hN'.1) hU'.2.word hN'.2.word
  have hown' : s'.vm.findClass own = some m.cls := by rw [hvm]; exact hown
  have hins : (Cond.instantiable cls 6).before args s' = true := h _ (by simp [Bundle.ownAtoms])
  obtain ⟨vm₁, cX, kX, hfX, hkX, -, -, X₁, st1⟩ := Y.newCold hexec (own := own) (C := cls) (index := ik) (n := 6) hown' hk' hins hini'
    (g := F0 m pc ls rest) rfl (by rw [hb]; exact d0) (Nat.le_refl _) (Nat.le_refl _)
  generalize hT1 : (T.setVm vm₁).pushCell { cls := cX, slots := kX.instanceTypes.map defaultValue, vm := .none } = T1 at X₁ st1
  have hcat : (Value.ref T.heap.size).category = 1 := rfl
  have hcellA : T1.heap[T.heap.size]? = some (freshCell cX kX) := by rw [← hT1]; exact State.heap_pushCell_size _ _
  have d3' : decode c.code (pc + 3) = .ok (.dup, 1) := by rw [hb]; exact d3
  have d4' : decode c.code (pc + 4) = .ok (.ldc is, 2) := by rw [hb]; exact d4
  have hstr' : vk_R own is text sa s' := vk_R.warm hW0 hstr
  obtain ⟨U, hsteps, hrun, hend, hW, hsame, ce, hce, hO⟩ := X₁.ctorThrowS hexec htr (own := own) (cls := cls) (names := names) (ic := ic) hown' hcls hnames h (fun x hx => nomatch hx) hfX hkX hcellA (by rw [hhp, hT]; exact Nat.le_refl _) (msg := .ref sa) rfl
    (g := { method := m, pc := pc + 6, locals := ls, stack := .ref sa :: .ref T.heap.size :: .ref T.heap.size :: rest, locked := none }) rfl hsize rfl rfl (rest := rest) rfl
    (by rw [hb]; exact d6) (by rw [hb]; exact d9) hout hRframes (by simp only [List.map_cons, List.sum_cons, hcat]; omega) hlocks
  obtain ⟨f1, f2⟩ := vx_frame hsame
  rw [hhp] at f1 f2
  have hWs : s.WarmedH U.vm := State.WarmedH.trans hW0 hW
  have hcl : s.vm.findClass cls = some ce.cls := by
    have h9 := hO.cls
    rw [hvm] at h9
    exact h9
  have hall : s.sameButNew ({ U with vm := s.vm } : State) locs mc ms := by
    subst hA
    obtain ⟨e1, e2⟩ := hsame
    rw [State.setFrames_setFrames] at e1
    have h2 : (T.setVm s.vm).sameButNew ({ U with vm := s.vm } : State) [] (0 + 1) (0 + 6) := ⟨e1, e2⟩
    have h3 := X.same.trans h2
    rw [List.append_nil] at h3
    exact h3.mono hc hs
  refine ⟨U, ?_, .threw T.heap.size, hrun, hend, Or.inr ⟨T.heap.size, rfl, cls, ce, locs, hx U hWs.alike f1 (fun q hq => f2 q hq (fun z hz => nomatch hz)), hce, hO.vm, hcl, hWs, hall, hf⟩⟩
  refine st1 _ ?_
  show Steps p.tables e below (T1.setTop { method := m, pc := pc + 3, locals := ls, stack := .ref T.heap.size :: rest, locked := none }) _
  jvm_step X₁.here [X₁.here.top, hexec, d3', Value.category]
  exact X₁.ldcString hexec (own := own) (text := text) (index := is) (a := sa) hown' hstr'.1 hstr'.2
    (g := { method := m, pc := pc + 4, locals := ls, stack := .ref T.heap.size :: .ref T.heap.size :: rest, locked := none }) rfl d4' _ hsteps
/-- 'throw new E("text")', the text by a wide index -/
theorem vx_throwSW {cc : ByteArray} {pc : Nat} (hexec : p.tables.exec = Jvm.exec) (hb : c.code = cc) (hl : l.stackTraces = false) {own cls text : String} {names : List String} {ik is ic mc ms sa : Nat} {A : Nat → Prop}
    (hown : s.vm.findClass own = some m.cls) (hcls : Bundle.fit cls = true) (hnames : ∀ n ∈ names, Bundle.fit n = true)
    (hk : (Cond.classLink own ik cls).before args s = true) (hini : (Cond.initialized cls).before args s = true) (hstr : vk_R own is text sa s) (hat : ∀ w ∈ vx_atS own ic cls names, w.before args s = true)
    (hgood : ∀ w ∈ Cond.classLink own ik cls :: Cond.initialized cls :: vx_atS own ic cls names, vx_ot w = true)
    (hU : vx_Zq Bundle.tN "UNASSIGNED_STACK" Bundle.steD A s s.heap) (hN : vx_Zq Bundle.tN "SUPPRESSED_SENTINEL" Bundle.listD A s s.heap) (hS : va_S A s.heap H locs) (hsize : ls.size = c.maxLocals)
    (d0 : decode cc pc = .ok (.new ik, 3)) (d3 : decode cc (pc + 3) = .ok (.dup, 1)) (d4 : decode cc (pc + 4) = .ok (.ldc_w is, 3)) (d7 : decode cc (pc + 7) = .ok (.invokespecial ic, 3)) (d10 : decode cc (pc + 10) = .ok (.athrow, 1))
    (hout : ∀ x ∈ c.exceptionTable.toList, covers x (pc + 10) = false)
    (hRframes : names.length + 3 < R.frames) (hRlocals : (rest.map fun v => v.category).sum + (13 * (names.length + 1) + 43) ≤ R.locals) (hRcells : cells + 1 ≤ R.cells) (hRslots : slots + 6 ≤ R.slots) (hlocks : meth.locks = false)
    (hx : ∀ t : State, s.vm.Alike t.vm → H.size ≤ t.heap.size → (∀ q : Nat, q < H.size → t.heap[q]? = H[q]?) → XC cls s t)
    (hf : ∀ z ∈ locs, free z.base) (hc : cells + 1 ≤ mc) (hs : slots + 6 ≤ ms) :
    W p l e R s m args below meth c H locs cells slots (vx_MQ below Qc XC args s mc ms free) (F0 m pc ls rest) := by
  intro T hT X
  have htr : e.platform.stackTraces = false := (show e.platform.stackTraces = l.stackTraces by rw [X.admits.platform]).trans hl
  have Y := vx_rebase X (R' := { frames := R.frames, locals := R.locals, cells := 1, slots := 6 }) (Nat.le_refl _) (Nat.le_refl _) hRcells hRslots
  obtain ⟨s', hA⟩ : ∃ z, z = (T.setVm s.vm).setFrames (.invoking m args :: below) := ⟨_, rfl⟩
  rw [← hA] at Y
  have hvm : s'.vm = s.vm := by rw [hA]; rfl
  have hhp : s'.heap = H := by rw [hA]; exact hT
  have hW0 : s.WarmedH s'.vm := by rw [hvm]; exact State.WarmedH.refl s
  have hat' : ∀ w ∈ vx_atS own ic cls names, w.before args s' = true := fun w hw => vx_ot_at hW0 hvm.symm (hgood w (List.mem_cons_of_mem _ (List.mem_cons_of_mem _ hw))) (hat w hw)
  have hk' : (Cond.classLink own ik cls).before args s' = true := vx_ot_at hW0 hvm.symm (hgood _ List.mem_cons_self) hk
  have hini' : (Cond.initialized cls).before args s' = true := vx_ot_at hW0 hvm.symm (hgood _ (List.mem_cons_of_mem _ List.mem_cons_self)) hini
  have hU' : vx_Zq Bundle.tN "UNASSIGNED_STACK" Bundle.steD A s' s'.heap := by rw [hhp]; exact vx_Zq.moved hW0.alike (hU.kept hS.2.1)
  have hN' : vx_Zq Bundle.tN "SUPPRESSED_SENTINEL" Bundle.listD A s' s'.heap := by rw [hhp]; exact vx_Zq.moved hW0.alike (hN.kept hS.2.1)
  have h : ∀ w ∈ Bundle.ownAtoms own ic cls names, w.before args s' = true := vx_own hat' (vx_isRefq hU'.1) (vx_isRefq hN'.1) hU'.2.word hN'.2.word
  have hown' : s'.vm.findClass own = some m.cls := by rw [hvm]; exact hown
  have hins : (Cond.instantiable cls 6).before args s' = true := h _ (by simp [Bundle.ownAtoms])
  obtain ⟨vm₁, cX, kX, hfX, hkX, -, -, X₁, st1⟩ := Y.newCold hexec (own := own) (C := cls) (index := ik) (n := 6) hown' hk' hins hini'
    (g := F0 m pc ls rest) rfl (by rw [hb]; exact d0) (Nat.le_refl _) (Nat.le_refl _)
  generalize hT1 : (T.setVm vm₁).pushCell { cls := cX, slots := kX.instanceTypes.map defaultValue, vm := .none } = T1 at X₁ st1
  have hcat : (Value.ref T.heap.size).category = 1 := rfl
  have hcellA : T1.heap[T.heap.size]? = some (freshCell cX kX) := by rw [← hT1]; exact State.heap_pushCell_size _ _
  have d3' : decode c.code (pc + 3) = .ok (.dup, 1) := by rw [hb]; exact d3
  have d4' : decode c.code (pc + 4) = .ok (.ldc_w is, 3) := by rw [hb]; exact d4
  have hstr' : vk_R own is text sa s' := vk_R.warm hW0 hstr
  obtain ⟨U, hsteps, hrun, hend, hW, hsame, ce, hce, hO⟩ := X₁.ctorThrowS hexec htr (own := own) (cls := cls) (names := names) (ic := ic) hown' hcls hnames h (fun x hx => nomatch hx) hfX hkX hcellA (by rw [hhp, hT]; exact Nat.le_refl _) (msg := .ref sa) rfl
    (g := { method := m, pc := pc + 7, locals := ls, stack := .ref sa :: .ref T.heap.size :: .ref T.heap.size :: rest, locked := none }) rfl hsize rfl rfl (rest := rest) rfl
    (by rw [hb]; exact d7) (by rw [hb]; exact d10) hout hRframes (by simp only [List.map_cons, List.sum_cons, hcat]; omega) hlocks
  obtain ⟨f1, f2⟩ := vx_frame hsame
  rw [hhp] at f1 f2
  have hWs : s.WarmedH U.vm := State.WarmedH.trans hW0 hW
  have hcl : s.vm.findClass cls = some ce.cls := by
    have h9 := hO.cls
    rw [hvm] at h9
    exact h9
  have hall : s.sameButNew ({ U with vm := s.vm } : State) locs mc ms := by
    subst hA
    obtain ⟨e1, e2⟩ := hsame
    rw [State.setFrames_setFrames] at e1
    have h2 : (T.setVm s.vm).sameButNew ({ U with vm := s.vm } : State) [] (0 + 1) (0 + 6) := ⟨e1, e2⟩
    have h3 := X.same.trans h2
    rw [List.append_nil] at h3
    exact h3.mono hc hs
  refine ⟨U, ?_, .threw T.heap.size, hrun, hend, Or.inr ⟨T.heap.size, rfl, cls, ce, locs, hx U hWs.alike f1 (fun q hq => f2 q hq (fun z hz => nomatch hz)), hce, hO.vm, hcl, hWs, hall, hf⟩⟩
  refine st1 _ ?_
  show Steps p.tables e below (T1.setTop { method := m, pc := pc + 3, locals := ls, stack := .ref T.heap.size :: rest, locked := none }) _
  jvm_step X₁.here [X₁.here.top, hexec, d3', Value.category]
  exact X₁.ldcStringW hexec (own := own) (text := text) (index := is) (a := sa) hown' hstr'.1 hstr'.2
    (g := { method := m, pc := pc + 4, locals := ls, stack := .ref T.heap.size :: .ref T.heap.size :: rest, locked := none }) rfl d4' _ hsteps
end Ends
section Bodies
variable {l : Launch}
theorem vx_ofW {y : MethodName} {ws ws' : List Cond} {rm : Room} {Pc : Array Value → State → Prop} {Qc : Array Value → State → Outcome → State → Prop} {XC : String → State → State → Prop} {mc ms : Nat} {free : Addr → Prop} {cc : ByteArray} {maxL : Nat} {ret : Option FieldType}
    (hy : plainName y.cls = true) (hw : ws = Cond.code y cc maxL ret :: ws')
    (body : ∀ p e s m args below meth c s₁, BodyLoose p l y (headSpec ws rm) cc maxL ret e s m args below meth c s₁ → c.maxLocals = maxL → (∀ x ∈ c.exceptionTable.toList, False) → Pc args s →
      W p l e (headSpec ws rm).room s m args below meth c s.heap [] 0 0 (vx_MQ below Qc XC args s mc ms free) (entryFrame m args maxL)) : vx_Met l y ws rm Pc Qc XC mc ms free := by
  refine MetFree.of_bodyS (code := cc) (maxLocals := maxL) (ret := ret) hy ?_ ?_
  · intro args s m h hn
    obtain ⟨meth, c, h1, h2, h3, h4, h5, h6, -, -⟩ := Cond.code_spec hn (atoms_spec (ws := ws) h _ (by rw [hw]; exact List.mem_cons_self))
    exact ⟨meth, c, h1, h2, h3, h4, h5, h6⟩
  · intro p e s m args below meth c s₁ B hml hP _
    have hh0 : s₁.heap = s.heap := by rw [B.state]; rfl
    have ht : ∀ x ∈ c.exceptionTable.toList, False := by
      obtain ⟨meth9, c9, h1, h2, -, -, -, -, h7, -⟩ := Cond.code_spec B.named (atoms_spec (ws := ws) B.pre _ (by rw [hw]; exact List.mem_cons_self))
      cases Option.some.inj (h1.symm.trans B.method)
      cases Option.some.inj (h2.symm.trans (Stand.of_body B).code)
      intro x hx
      rw [Array.isEmpty_iff.mp h7] at hx
      cases hx
    obtain ⟨t, a1, o, b1, b2, b3⟩ := body p e s m args below meth c s₁ B hml ht hP s₁ hh0 (Stand.of_body B)
    exact ⟨t, o, a1, b1, b2, b3⟩
/-- the table of a body with handlers -/
theorem vx_table {p : Program} {x y : MethodName} {S : Spec} {cc bytes : ByteArray} {maxL maxL' : Nat} {ret ret' : Option FieldType} {e : Env} {s s₁ : State} {m : MethodId} {args : Array Value} {below : List Frame} {meth : Method} {c : Code} {hh : List (Nat × Nat × Nat × Nat)}
    (B : BodyLoose p l y S cc maxL ret e s m args below meth c s₁) (h : (Cond.codeWith y bytes maxL' ret' hh).before args s = true) : c.exceptionTable.toList = tableOf hh := by
  obtain ⟨m9, meth9, c9, hn9, h1, h2, -, -, h6, -⟩ := Cond.codeWith_spec h
  cases Option.some.inj (hn9.symm.trans B.named)
  cases Option.some.inj (h1.symm.trans B.method)
  cases Option.some.inj (h2.symm.trans (Stand.of_body B).code)
  rw [← h6, table_eq]
end Bodies
end VXA
/-! ===== END ===== -/
/-! ===== BEGIN a static call of a method with an exception table ===== -/
section VXS
variable {p : Program} {l : Launch} {e : Env} {R : Room} {s : State} {m : MethodId} {args : Array Value} {below : List Frame} {meth : Method} {c : Code} {T : State} {H : Heap} {locs : List Loc} {cells slots : Nat}
abbrev vx_CSW (R : Room) (s : State) (args : Array Value) (own : String) (index : Nat) (y : MethodName) (bytes : ByteArray) (maxL : Nat) (ret : Option FieldType) (hh : List (Nat × Nat × Nat × Nat)) (ws : List Cond) (rm : Room) (mc ms n : Nat) : Prop :=
  (rm.cells = mc ∧ rm.slots = ms ∧ rm.frames + 1 ≤ R.frames ∧ 8 + (maxL + 11) + rm.locals ≤ R.locals ∧ (∀ w ∈ ws, ∀ (a' : Array Value) (U : State), s.WarmedH U.vm → w.before a' U = true) ∧ Cond.codeWith y bytes maxL ret hh ∈ ws) ∧
  (Cond.codeWith y bytes maxL ret hh).before args s = true ∧ (Cond.initialized y.cls).before args s = true ∧ (y.cls ≠ "java/lang/invoke/MethodHandle" ∧ y.cls ≠ "java/lang/invoke/VarHandle") ∧
  (∀ sig, parseMethodDescriptor y.desc = some sig → n = sig.parameters.length) ∧ (Cond.methodLink own index y).before args s = true ∧ (Cond.static y).before args s = true
theorem vx_cwSW {own : String} {index maxL mc ms : Nat} {y : MethodName} {bytes : ByteArray} {ret : Option FieldType} {hh : List (Nat × Nat × Nat × Nat)} {Ts ws ws' : List Cond} {rm : Room} (n : Nat) (ht : ∀ w ∈ Ts, w.before args s = true) (hT : GoodIn Ts (va_wsS own index y ws)) (hw : ws = Cond.codeWith y bytes maxL ret hh :: ws') (hrc : rm.cells = mc) (hrs : rm.slots = ms)
    (hd : y.cls ≠ "java/lang/invoke/MethodHandle" ∧ y.cls ≠ "java/lang/invoke/VarHandle" ∧ (parseMethodDescriptor y.desc).map (fun d => d.parameters.length) = some n) (hR : rm.frames + 1 ≤ R.frames ∧ 8 + (maxL + 11) + rm.locals ≤ R.locals) :
    vx_CSW R s args own index y bytes maxL ret hh ws rm mc ms n := by
  have ok : ∀ w ∈ va_wsS own index y ws, w.before args s = true := fun w h => ht w (hT w h).1
  have hG : GoodIn Ts ws := fun w h => hT w (by unfold va_wsS; exact List.mem_append_right _ h)
  have hc : Cond.codeWith y bytes maxL ret hh ∈ ws := by rw [hw]; exact List.mem_cons_self
  refine ⟨⟨hrc, hrs, hR.1, hR.2, pay_in ht hG, hc⟩, ht _ (hG _ hc).1, ok _ (by simp [va_wsS]), ⟨hd.1, hd.2.1⟩, fun sig h => ?_, ok _ (by simp [va_wsS]), ok _ (by simp [va_wsS])⟩
  have h2 := hd.2.2
  rw [h] at h2
  exact (Option.some.inj h2).symm
theorem vx_callSW (X : Stand p l e R s m args below meth c T locs cells slots) (hexec : p.tables.exec = Jvm.exec) {own : String} {index : Nat} {y : MethodName} {bytes : ByteArray} {maxL : Nat} {ret : Option FieldType} {hh : List (Nat × Nat × Nat × Nat)}
    (hown : s.vm.findClass own = some m.cls) (hlink : (Cond.methodLink own index y).before args s = true) (hstat : (Cond.static y).before args s = true) (hinit : (Cond.initialized y.cls).before args s = true)
    (hcode : (Cond.codeWith y bytes maxL ret hh).before args s = true) (hy : y.cls ≠ "java/lang/invoke/MethodHandle" ∧ y.cls ≠ "java/lang/invoke/VarHandle")
    {W9 : Nat} {Pre : Pt → Array Value → Prop} {Post : Pt → Array Value → Option Value → Pt → Prop} (hK : Back l R p e below s args y 3 W9 Pre Post)
    {g : JFrame} (hg : g.method = m) (hsize : g.locals.size = c.maxLocals) {argsL rest : List Value} (hlen : ∀ sig, parseMethodDescriptor y.desc = some sig → argsL.length = sig.parameters.length)
    (hstack : g.stack = argsL.reverse ++ rest) (hW : 2 * g.monitorRoom + (rest.map fun v => v.category).sum ≤ W9) (hdg : decode c.code g.pc = .ok (.invokestatic index, 3))
    (hpre : ∀ vm₁, s.WarmedH vm₁ → Pre ⟨T.setVm vm₁, locs, cells, slots⟩ argsL.toArray) :
    ∃ (v : Option Value) (vm₁ : Vm) (B : Pt), s.WarmedH vm₁ ∧ Stand p l e R s m args below meth c B.U B.locs B.cells B.slots ∧ Post ⟨T.setVm vm₁, locs, cells, slots⟩ argsL.toArray v B ∧
      ∀ target, Steps p.tables e below (B.U.setTop { g with pc := g.pc + 3, stack := v.toList ++ rest }) target → Steps p.tables e below (T.setTop g) target := by
  obtain ⟨mk, methM, cM, hnamed, hmethM, -, -, -, -, -, -, hsigM⟩ := Cond.codeWith_spec hcode
  have hstatic : methM.isStatic = true := Cond.static_spec hnamed hmethM hstat
  obtain ⟨kP, hkP, -⟩ := className_of_methodNamed hnamed
  have hinitP : kP.init = .initialized := Cond.initialized_spec (findClass_of_methodNamed hnamed) hkP hinit
  obtain ⟨vm₁, X₁, hstep₁⟩ := X.invokestatic hexec hown hlink hnamed hmethM hstatic hkP hinitP hy (g := g) hg (argsL := argsL) (rest := rest) (hlen _ hsigM) hstack hdg
  obtain ⟨v, B, X', hpost, hsteps⟩ := hK m meth c ⟨T.setVm vm₁, locs, cells, slots⟩ { g with stack := rest } (.invokestatic index) mk argsL.toArray X₁ hg hsize hdg hW (X₁.named hnamed) (hpre vm₁ X₁.warmed)
  exact ⟨v, vm₁, B, X₁.warmed, X', hpost, fun target h => hstep₁ _ fun acts => by rw [doInvoke_state]; exact hsteps.trans h⟩
theorem vx_runSW {y : MethodName} {bytes cc : ByteArray} {maxL nL mc ms n index : Nat} {ret : Option FieldType} {hh : List (Nat × Nat × Nat × Nat)} {ws : List Cond} {rm : Room} {Pc : Array Value → State → Prop} {Qc : Array Value → State → Outcome → State → Prop} {free : Addr → Prop} {Ts : List Cond} {own : String} {As rest : List Value} {g : JFrame}
    (S : CallFix p m c cc nL s args Ts own) (hM : Met l y ws rm Pc Qc mc ms free) (cw : vx_CSW R s args own index y bytes maxL ret hh ws rm mc ms n) (hp : PreS s H Pc As)
    (hg : g.method = m) (hn : As.length = n) (hsize : g.locals.size = nL) (hstack : g.stack = As.reverse ++ rest) (hW : 2 * g.monitorRoom + (rest.map fun v => v.category).sum ≤ 8) (hdg : decode cc g.pc = .ok (.invokestatic index, 3)) (hf : cells + mc ≤ R.cells ∧ slots + ms ≤ R.slots) :
    va_Run p l e R s m args below meth c H locs cells slots mc ms g rest (Qc As.toArray) (free) := by
  obtain ⟨⟨hrc, hrs, hfr, hlo, hws, hcw⟩, hcode, hini, hy, hlen, hl, hstt⟩ := cw
  have hK : Back l R p e below s args y 3 8 (PreOf R mc ms Pc) (PostOf Qc mc ms free) := va_backW (hh := hh) (bytes := bytes) (maxL := maxL) (ret := ret) hM hp.1 hrc hrs hfr hlo hws hcw (fun a' U hW => word_at hW (Or.inl (by first | rfl | simp [Cond.onTables, Cond.keeps, Cond.steady])) hini)
  obtain ⟨hx, hb, hml, ho, -⟩ := S
  intro T hT X
  obtain ⟨v, vm₁, ⟨U', l2, c2, s2⟩, hW₁, X', ⟨g', mk, t, L, e1, e2, hq, h1, hL, h2, h3⟩, st⟩ := vx_callSW X hx (hh := hh) (bytes := bytes) (maxL := maxL) (ret := ret) ho hl hstt hini hcode hy hK hg (hsize.trans hml.symm) (argsL := As) (rest := rest) (fun sig h => hn.trans (hlen sig h)) hstack hW (by rw [hb]; exact hdg)
    (fun vm₁ hW₁ => ⟨hf.1, hf.2, hp.2 (T.setVm vm₁) hT hW₁⟩)
  dsimp only [Pt.U, Pt.locs, Pt.cells, Pt.slots] at X' e1 e2 h1 h2 h3 st
  subst h1; subst h2; subst h3
  exact ⟨v, (T.setVm vm₁).calling g' mk As.toArray, t, U', L, hT, X', hL, e1, e2, hq, st⟩
/-- not caught here, past rows that name other classes: it goes on to the caller -/
theorem vx_outP {p : Program} {l : Launch} {e : Env} {R : Room} {s : State} {m : MethodId} {args : Array Value} {below : List Frame} {meth : Method} {c : Code} {H : Heap} {locs : List Loc} {cells slots : Nat} {free : Addr → Prop} {ls : Array Slot} {rest : List Value} {Qc : Array Value → State → Outcome → State → Prop} {XC : String → State → State → Prop}
    {pc : Nat} {own E : String} {ce : Cell} {q : Addr} {mc ms : Nat} (hown : s.vm.findClass own = some m.cls) (hlocks : meth.locks = false)
    (hpass : ∀ z ∈ c.exceptionTable.toList, covers z pc = false ∨ (z.catchType ≠ 0 ∧ ∃ nm : String, (Cond.classLink own z.catchType nm).before args s = true ∧ va_Nc E nm s)) (hcell : H[q]? = some ce) (hv : ce.vm = .none) (hcl : s.vm.findClass E = some ce.cls)
    (hx : ∀ t : State, t.heap = H → s.vm.Alike t.vm → XC E s t) (hf : ∀ z ∈ locs, free z.base) (hc : cells ≤ mc) (hs : slots ≤ ms) :
    vx_W p l e R s m args below meth c H locs cells slots (vx_MQ below Qc XC args s mc ms free) (F0 m pc ls rest) q := by
  intro T hT X
  have hpl : e.platform.magicAccessors = ({} : Platform).magicAccessors := by rw [X.admits.platform]
  obtain ⟨vm', hW', X', st⟩ := X.outThrough hlocks q (g := F0 m pc ls rest) rfl rfl rfl (cell := ce) (by rw [hT]; exact hcell) (by rw [hv]; rfl)
    (by obtain ⟨k9, h9, -⟩ := Vm.findClass_spec hcl; exact ⟨k9, h9⟩) (fun z hz => by
      rcases hpass z hz with h | ⟨hz0, nm, hl1, hn1⟩
      · exact Or.inl h
      · obtain ⟨c6, hc6, hcl6⟩ := Cond.classLink_spec hown hl1 e.platform hpl
        obtain ⟨a8, b8, h1, h2, h3⟩ := hn1
        cases Option.some.inj (h1.symm.trans hcl)
        cases Option.some.inj (h2.symm.trans hc6)
        exact Or.inr ⟨hz0, _, hcl6, h3⟩)
  obtain ⟨g₀, hfr⟩ := X'.frames_eq
  have hcell9 : ((T.setVm vm').setFrames (.throwing q :: below)).heap[q]? = some ce := by
    show T.heap[q]? = some ce
    rw [hT]; exact hcell
  have hend : Ended ((T.setVm vm').setFrames (.throwing q :: below)) below (.threw q) := State.frames_setFrames _ (State.cur_lt_of_frames hfr)
  refine ⟨(T.setVm vm').setFrames (.throwing q :: below), ?_, .threw q, X'.here.running, hend, Or.inr ⟨q, rfl, E, ce, locs, hx _ hT (X'.ends _).1.alike, hcell9, hv, hcl, (X'.ends _).1, (X'.ends _).2.mono hc hs, hf⟩⟩
  rw [X.pushThrowing_eq]
  exact st
/-- a thing of a world lies in the heap -/
theorem vx_lt {D : va_G} {cl : List vw_C} {ws : va_W} {H1 : Heap} (h : va_P D cl ws H1) {k : Nat} {q : Nat × va_E} (hk : ws[k]? = some q) : q.1 < H1.size := (h k q hk).lt
end VXS
/-! ===== END ===== -/
/-! ===== BEGIN methods with a table of their own: called by a name, returning or throwing ===== -/
section VXH
/-! vx_backW, vx_callVX, vx_callSX, vx_callVW, vx_runVW, vx_runVX, vx_runSX, vx_ofWH follow the same proofs as their sisters above (Free/Laws.lean, Shelf42/LK1.lean); vx_outP calls Shelf42/NT130.lean (outThrough). -/
section
variable {l : Launch} {R : Room} {p : Program} {e : Env} {below : List Frame} {s : State} {sargs : Array Value} {y : MethodName} {len W9 : Nat}
theorem vx_backW {ws : List Cond} {rm : Room} {Pc : Array Value → State → Prop} {Qc : Array Value → State → Outcome → State → Prop} {XC : String → State → State → Prop} {mc ms : Nat} {free : Addr → Prop} {bytes : ByteArray} {maxL : Nat} {ret : Option FieldType} {hh : List (Nat × Nat × Nat × Nat)}
    (hM : vx_Met l y ws rm Pc Qc XC mc ms free) (hblind : FrameBlind Pc) (hrc : rm.cells = mc) (hrs : rm.slots = ms)
    (hframes : rm.frames + 1 ≤ R.frames) (hlocals : W9 + (maxL + 11) + rm.locals ≤ R.locals)
    (hws : ∀ w ∈ ws, ∀ a' U, s.WarmedH U.vm → w.before a' U = true) (hcode : Cond.codeWith y bytes maxL ret hh ∈ ws) (hinit : ∀ a' U, s.WarmedH U.vm → (Cond.initialized y.cls).before a' U = true) :
    vx_Back l R p e below s sargs y len W9 (PreOf R mc ms Pc) (PostOf Qc mc ms free) (vx_Post XC mc ms free) := by
  intro m meth c A g ig mk a X hg hsize hdg hW hn hp
  have h1 : (headSpec ws rm).pre.before a A.U = true := atoms_intro fun w hw => hws w hw _ _ X.warmed
  have h2 : (Cond.codeWith y bytes maxL ret hh).before a A.U = true := hws _ hcode _ _ X.warmed
  have h3 : (Cond.initialized y.cls).before a A.U = true := hinit _ _ X.warmed
  have h4 : A.cells + (headSpec ws rm).room.cells ≤ R.cells := by rw [show (headSpec ws rm).room.cells = mc from hrc]; exact hp.1
  have h5 : A.slots + (headSpec ws rm).room.slots ≤ R.slots := by rw [show (headSpec ws rm).room.slots = ms from hrs]; exact hp.2.1
  have hPc : Pc a (A.U.calling g mk a) := hblind _ _ _ _ hp.2.2
  obtain ⟨U, Ls, c0, s0⟩ := A
  dsimp only [Pt.U, Pt.locs, Pt.cells, Pt.slots] at h1 h2 h3 h4 h5 X hn hPc ⊢
  obtain ⟨m9, methY, cY, hn9, hmY, hcY, -, hlY, -⟩ := Cond.codeWith_spec h2
  cases Option.some.inj (hn9.symm.trans hn)
  obtain ⟨kY, hkY, -⟩ := className_of_methodNamed hn
  have hinitY : kY.init = .initialized := Cond.initialized_spec (findClass_of_methodNamed hn) hkY h3
  have h : At U g.method c below := by rw [hg]; exact X.here
  have hlocals9 : W9 + (maxL + 11) + (headSpec ws rm).room.locals ≤ R.locals := hlocals
  have happ : (headSpec ws rm).appliesLoose y e.platform (U.calling g mk a) = true :=
    Spec.appliesLoose_calling (g := g) h hdg hn hkY hinitY
      (X.room_calling (g := g) (R' := (headSpec ws rm).room) hsize hmY hcY hframes (by rw [hlY]; omega) h4 h5) h1
  obtain ⟨mid, hmid⟩ := h.above
  have hfr : (U.setTop g).frames = (.java g :: mid) ++ below := by rw [State.frames_setTop' g h.top, hmid]; rfl
  obtain ⟨o, s₂, hsteps, -, hend, hq⟩ := Steps.callFree hM p X.admits X.cas X.clock (acts := []) hfr happ hPc trivial
  have hq' : vx_Q Qc XC mc ms free a (U.calling g mk a) o s₂ := hq
  rw [State.frames_setTop' g h.top] at hend
  obtain ⟨g₀, hg0⟩ := Option.isSome_iff_exists.mp h.top
  obtain ⟨r, hr⟩ := State.topJava?_eq_some.mp hg0
  have hr' : (({ U with heap := s₂.heap, slotsUsed := s₂.slotsUsed } : State).setVm s₂.vm).frames = .java g₀ :: r := hr
  rcases hq' with ⟨hqc, L, hfe, hL⟩ | ⟨q, rfl, E, ce, L, hx, hce, hcv, hcl, hW₂, hsm, hL⟩
  · obtain ⟨⟨v, rfl⟩, hW₂, e2, q2, q3, q4, q5, q6⟩ := id hfe
    have e3 : s₂ = ({ (U.calling g mk a).setFrames s₂.frames with heap := s₂.heap, slotsUsed := s₂.slotsUsed } : State).setVm s₂.vm := by
      have : s₂ = ({ s₂ with vm := (U.calling g mk a).vm } : State).setVm s₂.vm := rfl
      rw [e2] at this
      exact this
    obtain ⟨c₂, i₂, len₂, hc₂, hd₂, hf₂⟩ := hend
    have hW' : U.WarmedH s₂.vm := hW₂
    have hcc : c₂ = c := by
      have h1 : s₂.code? g.method = U.code? g.method := by
        rw [State.code?_eq, State.code?_eq, hW'.alike.method?]
      exact Option.some.inj (hc₂.symm.trans (h1.trans h.code))
    subst hcc
    have hlen : len₂ = len := by rw [hdg] at hd₂; cases hd₂; rfl
    subst hlen
    have hs₂ : s₂ = (({ U with heap := s₂.heap, slotsUsed := s₂.slotsUsed } : State).setVm s₂.vm).setTop { g with pc := g.pc + len₂, stack := v.toList ++ g.stack } := by
      refine e3.trans ?_
      rw [hf₂, State.calling_eq h.top, State.setFrames_setFrames, State.setTop_of_frames _ hr', hr]
      rfl
    have hsame : U.sameButNew ({ U with heap := s₂.heap, slotsUsed := s₂.slotsUsed } : State) L mc ms := by
      refine ⟨?_, q2, q3, q4, q5, q6⟩
      obtain ⟨t, ht, -⟩ := State.frames_cons hr
      show ({ U with heap := s₂.heap, slotsUsed := s₂.slotsUsed } : State) = { U.setFrames U.frames with heap := s₂.heap, slotsUsed := s₂.slotsUsed }
      rw [State.setFrames_self ht]
    subst hg
    refine Or.inl ⟨v, ⟨(({ U with heap := s₂.heap, slotsUsed := s₂.slotsUsed } : State).setVm s₂.vm), Ls ++ L, c0 + mc, s0 + ms⟩,
      ⟨X.admits, X.cas, X.clock, X.frames, X.room, X.hears, X.method, X.code, (X.here.setHeapUsed s₂.heap s₂.slotsUsed).setVm hW'.alike, X.tail, State.WarmedH.trans X.warmed hW', X.limits, X.bytes, X.same.trans (hsame.setVm s.vm)⟩,
      ⟨g, mk, s₂, L, rfl, rfl, hqc, rfl, hL, rfl, rfl⟩, ?_⟩
    show Steps p.tables e below _ ((({ U with heap := s₂.heap, slotsUsed := s₂.slotsUsed } : State).setVm s₂.vm).setTop { g with pc := g.pc + len₂, stack := v.toList ++ g.stack })
    rw [← hs₂]
    exact hsteps
  · obtain ⟨e2, q2, q3, q4, q5, q6⟩ := id hsm
    have e3 : s₂ = ({ (U.calling g mk a).setFrames s₂.frames with heap := s₂.heap, slotsUsed := s₂.slotsUsed } : State).setVm s₂.vm := by
      have : s₂ = ({ s₂ with vm := (U.calling g mk a).vm } : State).setVm s₂.vm := rfl
      rw [e2] at this
      exact this
    have hf₂ : s₂.frames = .throwing q :: .java g :: U.frames.tail := hend
    have hW' : U.WarmedH s₂.vm := hW₂
    have hs₂ : s₂ = ((({ U with heap := s₂.heap, slotsUsed := s₂.slotsUsed } : State).setVm s₂.vm).setTop g).pushFrame (.throwing q) := by
      refine e3.trans ?_
      rw [hf₂, State.calling_eq h.top, State.setFrames_setFrames, State.pushFrame, State.frames_setTop _ hr', State.setTop_of_frames _ hr', State.setFrames_setFrames, hr]
      rfl
    have hsame : U.sameButNew ({ U with heap := s₂.heap, slotsUsed := s₂.slotsUsed } : State) L mc ms := by
      refine ⟨?_, q2, q3, q4, q5, q6⟩
      obtain ⟨t, ht, -⟩ := State.frames_cons hr
      show ({ U with heap := s₂.heap, slotsUsed := s₂.slotsUsed } : State) = { U.setFrames U.frames with heap := s₂.heap, slotsUsed := s₂.slotsUsed }
      rw [State.setFrames_self ht]
    subst hg
    refine Or.inr ⟨q, ⟨(({ U with heap := s₂.heap, slotsUsed := s₂.slotsUsed } : State).setVm s₂.vm), Ls ++ L, c0 + mc, s0 + ms⟩,
      ⟨X.admits, X.cas, X.clock, X.frames, X.room, X.hears, X.method, X.code, (X.here.setHeapUsed s₂.heap s₂.slotsUsed).setVm hW'.alike, X.tail, State.WarmedH.trans X.warmed hW', X.limits, X.bytes, X.same.trans (hsame.setVm s.vm)⟩,
      ⟨g, mk, s₂, L, E, ce, rfl, rfl, hx, hce, hcv, hcl, rfl, hL, rfl, rfl⟩, ?_⟩
    show Steps p.tables e below _ (((({ U with heap := s₂.heap, slotsUsed := s₂.slotsUsed } : State).setVm s₂.vm).setTop g).pushFrame (.throwing q))
    rw [← hs₂]
    exact hsteps
end
variable {p : Program} {l : Launch} {e : Env} {R : Room} {s : State} {m : MethodId} {args : Array Value} {below : List Frame} {meth : Method} {c : Code} {T : State} {H : Heap} {locs : List Loc} {cells slots : Nat}
theorem vx_callVX (X : Stand p l e R s m args below meth c T locs cells slots) (hexec : p.tables.exec = Jvm.exec) {own C : String} {index : Nat} {y : MethodName} {bytes : ByteArray} {maxL : Nat} {ret : Option FieldType} {hh : List (Nat × Nat × Nat × Nat)}
    (hown : s.vm.findClass own = some m.cls) (hlink : (Cond.methodLink own index y).before args s = true) (hinst : (Cond.instanceMethod y).before args s = true) (hsel : (Cond.selects C y y).before args s = true)
    (hcode : (Cond.codeWith y bytes maxL ret hh).before args s = true) (hy : y.cls ≠ "java/lang/invoke/MethodHandle" ∧ y.cls ≠ "java/lang/invoke/VarHandle")
    {W9 : Nat} {Pre : Pt → Array Value → Prop} {Post : Pt → Array Value → Option Value → Pt → Prop} {PostX : Pt → Array Value → Addr → Pt → Prop} (hK : vx_Back l R p e below s args y 3 W9 Pre Post PostX)
    {b : Addr} {cellB : Cell} (hcell : T.heap[b]? = some cellB) (hobj : cellB.vm.isStatics = false) (hcls : s.vm.findClass C = some cellB.cls)
    {g : JFrame} (hg : g.method = m) (hsize : g.locals.size = c.maxLocals) {argsL rest : List Value} (hlen : ∀ sig, parseMethodDescriptor y.desc = some sig → argsL.length = sig.parameters.length)
    (hstack : g.stack = argsL.reverse ++ .ref b :: rest) (hW : 2 * g.monitorRoom + (rest.map fun v => v.category).sum ≤ W9) (hdg : decode c.code g.pc = .ok (.invokevirtual index, 3))
    (hpre : ∀ vm₁, s.WarmedH vm₁ → Pre ⟨T.setVm vm₁, locs, cells, slots⟩ (Value.ref b :: argsL).toArray) :
    (∃ (v : Option Value) (vm₁ : Vm) (B : Pt), s.WarmedH vm₁ ∧ Stand p l e R s m args below meth c B.U B.locs B.cells B.slots ∧ Post ⟨T.setVm vm₁, locs, cells, slots⟩ (Value.ref b :: argsL).toArray v B ∧
      ∀ target, Steps p.tables e below (B.U.setTop { g with pc := g.pc + 3, stack := v.toList ++ rest }) target → Steps p.tables e below (T.setTop g) target) ∨
    (∃ (q : Addr) (vm₁ : Vm) (B : Pt), s.WarmedH vm₁ ∧ Stand p l e R s m args below meth c B.U B.locs B.cells B.slots ∧ PostX ⟨T.setVm vm₁, locs, cells, slots⟩ (Value.ref b :: argsL).toArray q B ∧
      Steps p.tables e below (T.setTop g) ((B.U.setTop { g with stack := rest }).pushFrame (.throwing q))) := by
  obtain ⟨mk, methM, hnamed, hmethM, hstM, habM⟩ := Cond.instanceMethod_spec hinst
  obtain ⟨m8, methM', cM, hn8, hmethM', -, -, -, -, -, -, hsigM⟩ := Cond.codeWith_spec hcode
  cases Option.some.inj (hn8.symm.trans hnamed)
  cases hmethM.symm.trans hmethM'
  obtain ⟨c2, r2, m2, q1, q2, q3, q4, kP, hkP, hkPi⟩ := Cond.selects_spec hsel
  cases hcls.symm.trans q1
  cases (State.methodFound?_of_named hnamed hy).symm.trans q2
  cases hnamed.symm.trans q3
  have hselP : selectMethod e.platform s.vm cellB.cls mk = .method mk := by rw [Launch.admits_selectMethod X.admits]; exact q4
  obtain ⟨vm₁, X₁, hstep₁⟩ := X.invokevirtual hexec hown hlink hnamed hmethM hstM hkP hkPi hy (a := b) (cell := cellB) hcell
    (fun z h => by rw [h] at hobj; cases hobj) hselP hmethM habM hkP hkPi (g := g) hg (argsL := argsL) (rest := rest) (hlen _ hsigM) hstack hdg
  rcases hK m meth c ⟨T.setVm vm₁, locs, cells, slots⟩ { g with stack := rest } (.invokevirtual index) mk (Value.ref b :: argsL).toArray X₁ hg hsize hdg hW (X₁.named hnamed) (hpre vm₁ X₁.warmed) with ⟨v, B, X', hpost, hsteps⟩ | ⟨q, B, X', hpost, hsteps⟩
  · exact Or.inl ⟨v, vm₁, B, X₁.warmed, X', hpost, fun target h => hstep₁ _ fun acts => by rw [doInvoke_state]; exact hsteps.trans h⟩
  · exact Or.inr ⟨q, vm₁, B, X₁.warmed, X', hpost, hstep₁ _ fun acts => by rw [doInvoke_state]; exact hsteps⟩
theorem vx_callSX (X : Stand p l e R s m args below meth c T locs cells slots) (hexec : p.tables.exec = Jvm.exec) {own : String} {index : Nat} {y : MethodName} {bytes : ByteArray} {maxL : Nat} {ret : Option FieldType} {hh : List (Nat × Nat × Nat × Nat)}
    (hown : s.vm.findClass own = some m.cls) (hlink : (Cond.methodLink own index y).before args s = true) (hstat : (Cond.static y).before args s = true) (hinit : (Cond.initialized y.cls).before args s = true)
    (hcode : (Cond.codeWith y bytes maxL ret hh).before args s = true) (hy : y.cls ≠ "java/lang/invoke/MethodHandle" ∧ y.cls ≠ "java/lang/invoke/VarHandle")
    {W9 : Nat} {Pre : Pt → Array Value → Prop} {Post : Pt → Array Value → Option Value → Pt → Prop} {PostX : Pt → Array Value → Addr → Pt → Prop} (hK : vx_Back l R p e below s args y 3 W9 Pre Post PostX)
    {g : JFrame} (hg : g.method = m) (hsize : g.locals.size = c.maxLocals) {argsL rest : List Value} (hlen : ∀ sig, parseMethodDescriptor y.desc = some sig → argsL.length = sig.parameters.length)
    (hstack : g.stack = argsL.reverse ++ rest) (hW : 2 * g.monitorRoom + (rest.map fun v => v.category).sum ≤ W9) (hdg : decode c.code g.pc = .ok (.invokestatic index, 3))
    (hpre : ∀ vm₁, s.WarmedH vm₁ → Pre ⟨T.setVm vm₁, locs, cells, slots⟩ argsL.toArray) :
    (∃ (v : Option Value) (vm₁ : Vm) (B : Pt), s.WarmedH vm₁ ∧ Stand p l e R s m args below meth c B.U B.locs B.cells B.slots ∧ Post ⟨T.setVm vm₁, locs, cells, slots⟩ argsL.toArray v B ∧
      ∀ target, Steps p.tables e below (B.U.setTop { g with pc := g.pc + 3, stack := v.toList ++ rest }) target → Steps p.tables e below (T.setTop g) target) ∨
    (∃ (q : Addr) (vm₁ : Vm) (B : Pt), s.WarmedH vm₁ ∧ Stand p l e R s m args below meth c B.U B.locs B.cells B.slots ∧ PostX ⟨T.setVm vm₁, locs, cells, slots⟩ argsL.toArray q B ∧
      Steps p.tables e below (T.setTop g) ((B.U.setTop { g with stack := rest }).pushFrame (.throwing q))) := by
  obtain ⟨mk, methM, cM, hnamed, hmethM, -, -, -, -, -, -, hsigM⟩ := Cond.codeWith_spec hcode
  have hstatic : methM.isStatic = true := Cond.static_spec hnamed hmethM hstat
  obtain ⟨kP, hkP, -⟩ := className_of_methodNamed hnamed
  have hinitP : kP.init = .initialized := Cond.initialized_spec (findClass_of_methodNamed hnamed) hkP hinit
  obtain ⟨vm₁, X₁, hstep₁⟩ := X.invokestatic hexec hown hlink hnamed hmethM hstatic hkP hinitP hy (g := g) hg (argsL := argsL) (rest := rest) (hlen _ hsigM) hstack hdg
  rcases hK m meth c ⟨T.setVm vm₁, locs, cells, slots⟩ { g with stack := rest } (.invokestatic index) mk argsL.toArray X₁ hg hsize hdg hW (X₁.named hnamed) (hpre vm₁ X₁.warmed) with ⟨v, B, X', hpost, hsteps⟩ | ⟨q, B, X', hpost, hsteps⟩
  · exact Or.inl ⟨v, vm₁, B, X₁.warmed, X', hpost, fun target h => hstep₁ _ fun acts => by rw [doInvoke_state]; exact hsteps.trans h⟩
  · exact Or.inr ⟨q, vm₁, B, X₁.warmed, X', hpost, hstep₁ _ fun acts => by rw [doInvoke_state]; exact hsteps⟩
theorem vx_callVW (X : Stand p l e R s m args below meth c T locs cells slots) (hexec : p.tables.exec = Jvm.exec) {own C : String} {index : Nat} {y : MethodName} {bytes : ByteArray} {maxL : Nat} {ret : Option FieldType} {hh : List (Nat × Nat × Nat × Nat)}
    (hown : s.vm.findClass own = some m.cls) (hlink : (Cond.methodLink own index y).before args s = true) (hinst : (Cond.instanceMethod y).before args s = true) (hsel : (Cond.selects C y y).before args s = true)
    (hcode : (Cond.codeWith y bytes maxL ret hh).before args s = true) (hy : y.cls ≠ "java/lang/invoke/MethodHandle" ∧ y.cls ≠ "java/lang/invoke/VarHandle")
    {W9 : Nat} {Pre : Pt → Array Value → Prop} {Post : Pt → Array Value → Option Value → Pt → Prop} (hK : Back l R p e below s args y 3 W9 Pre Post)
    {b : Addr} {cellB : Cell} (hcell : T.heap[b]? = some cellB) (hobj : cellB.vm.isStatics = false) (hcls : s.vm.findClass C = some cellB.cls)
    {g : JFrame} (hg : g.method = m) (hsize : g.locals.size = c.maxLocals) {argsL rest : List Value} (hlen : ∀ sig, parseMethodDescriptor y.desc = some sig → argsL.length = sig.parameters.length)
    (hstack : g.stack = argsL.reverse ++ .ref b :: rest) (hW : 2 * g.monitorRoom + (rest.map fun v => v.category).sum ≤ W9) (hdg : decode c.code g.pc = .ok (.invokevirtual index, 3))
    (hpre : ∀ vm₁, s.WarmedH vm₁ → Pre ⟨T.setVm vm₁, locs, cells, slots⟩ (Value.ref b :: argsL).toArray) :
    ∃ (v : Option Value) (vm₁ : Vm) (B : Pt), s.WarmedH vm₁ ∧ Stand p l e R s m args below meth c B.U B.locs B.cells B.slots ∧ Post ⟨T.setVm vm₁, locs, cells, slots⟩ (Value.ref b :: argsL).toArray v B ∧
      ∀ target, Steps p.tables e below (B.U.setTop { g with pc := g.pc + 3, stack := v.toList ++ rest }) target → Steps p.tables e below (T.setTop g) target := by
  obtain ⟨mk, methM, hnamed, hmethM, hstM, habM⟩ := Cond.instanceMethod_spec hinst
  obtain ⟨m8, methM', cM, hn8, hmethM', -, -, -, -, -, -, hsigM⟩ := Cond.codeWith_spec hcode
  cases Option.some.inj (hn8.symm.trans hnamed)
  cases hmethM.symm.trans hmethM'
  obtain ⟨c2, r2, m2, q1, q2, q3, q4, kP, hkP, hkPi⟩ := Cond.selects_spec hsel
  cases hcls.symm.trans q1
  cases (State.methodFound?_of_named hnamed hy).symm.trans q2
  cases hnamed.symm.trans q3
  have hselP : selectMethod e.platform s.vm cellB.cls mk = .method mk := by rw [Launch.admits_selectMethod X.admits]; exact q4
  obtain ⟨vm₁, X₁, hstep₁⟩ := X.invokevirtual hexec hown hlink hnamed hmethM hstM hkP hkPi hy (a := b) (cell := cellB) hcell
    (fun z h => by rw [h] at hobj; cases hobj) hselP hmethM habM hkP hkPi (g := g) hg (argsL := argsL) (rest := rest) (hlen _ hsigM) hstack hdg
  obtain ⟨v, B, X', hpost, hsteps⟩ := hK m meth c ⟨T.setVm vm₁, locs, cells, slots⟩ { g with stack := rest } (.invokevirtual index) mk (Value.ref b :: argsL).toArray X₁ hg hsize hdg hW (X₁.named hnamed) (hpre vm₁ X₁.warmed)
  exact ⟨v, vm₁, B, X₁.warmed, X', hpost, fun target h => hstep₁ _ fun acts => by rw [doInvoke_state]; exact hsteps.trans h⟩
abbrev vx_CVW (R : Room) (s : State) (args : Array Value) (own C : String) (index : Nat) (y : MethodName) (bytes : ByteArray) (maxL : Nat) (ret : Option FieldType) (hh : List (Nat × Nat × Nat × Nat)) (ws : List Cond) (rm : Room) (mc ms n : Nat) : Prop :=
  (rm.cells = mc ∧ rm.slots = ms ∧ rm.frames + 1 ≤ R.frames ∧ 8 + (maxL + 11) + rm.locals ≤ R.locals ∧ (∀ w ∈ ws, ∀ (a' : Array Value) (U : State), s.WarmedH U.vm → w.before a' U = true) ∧ Cond.codeWith y bytes maxL ret hh ∈ ws) ∧
  (Cond.codeWith y bytes maxL ret hh).before args s = true ∧ (Cond.initialized y.cls).before args s = true ∧ (y.cls ≠ "java/lang/invoke/MethodHandle" ∧ y.cls ≠ "java/lang/invoke/VarHandle") ∧
  (∀ sig, parseMethodDescriptor y.desc = some sig → n = sig.parameters.length) ∧ (Cond.methodLink own index y).before args s = true ∧ (Cond.instanceMethod y).before args s = true ∧ (Cond.selects C y y).before args s = true
theorem vx_cwVW {own C : String} {index maxL mc ms : Nat} {y : MethodName} {bytes : ByteArray} {ret : Option FieldType} {hh : List (Nat × Nat × Nat × Nat)} {Ts ws ws' : List Cond} {rm : Room} (n : Nat) (ht : ∀ w ∈ Ts, w.before args s = true) (hT : GoodIn Ts (wsV own index C y ws)) (hw : ws = Cond.codeWith y bytes maxL ret hh :: ws') (hrc : rm.cells = mc) (hrs : rm.slots = ms)
    (hd : y.cls = C ∧ y.cls ≠ "java/lang/invoke/MethodHandle" ∧ y.cls ≠ "java/lang/invoke/VarHandle" ∧ (parseMethodDescriptor y.desc).map (fun d => d.parameters.length) = some n) (hR : rm.frames + 1 ≤ R.frames ∧ 8 + (maxL + 11) + rm.locals ≤ R.locals) :
    vx_CVW R s args own C index y bytes maxL ret hh ws rm mc ms n := by
  obtain ⟨hC, hd⟩ := hd
  subst hC
  have ok : ∀ w ∈ wsV own index y.cls y ws, w.before args s = true := fun w h => ht w (hT w h).1
  have hG : GoodIn Ts ws := fun w h => hT w (by unfold wsV; exact List.mem_append_right _ h)
  have hc : Cond.codeWith y bytes maxL ret hh ∈ ws := by rw [hw]; exact List.mem_cons_self
  refine ⟨⟨hrc, hrs, hR.1, hR.2, pay_in ht hG, hc⟩, ht _ (hG _ hc).1, ok _ (by simp [wsV]), ⟨hd.1, hd.2.1⟩, fun sig h => ?_, ok _ (by simp [wsV]), ok _ (by simp [wsV]), ok _ (by simp [wsV])⟩
  have h2 := hd.2.2
  rw [h] at h2
  exact (Option.some.inj h2).symm
theorem vx_runVW {y : MethodName} {bytes cc : ByteArray} {maxL nL mc ms n index : Nat} {ret : Option FieldType} {hh : List (Nat × Nat × Nat × Nat)} {ws : List Cond} {rm : Room} {Pc : Array Value → State → Prop} {Qc : Array Value → State → Outcome → State → Prop} {free : Addr → Prop} {Ts : List Cond} {own C : String} {b : Addr} {As rest : List Value} {g : JFrame}
    (S : CallFix p m c cc nL s args Ts own) (hM : Met l y ws rm Pc Qc mc ms free) (cw : vx_CVW R s args own C index y bytes maxL ret hh ws rm mc ms n) (hp : PreV s H C b Pc As)
    (hg : g.method = m) (hn : As.length = n) (hsize : g.locals.size = nL) (hstack : g.stack = As.reverse ++ .ref b :: rest) (hW : 2 * g.monitorRoom + (rest.map fun v => v.category).sum ≤ 8) (hdg : decode cc g.pc = .ok (.invokevirtual index, 3)) (hf : cells + mc ≤ R.cells ∧ slots + ms ≤ R.slots) :
    va_Run p l e R s m args below meth c H locs cells slots mc ms g rest (Qc (Value.ref b :: As).toArray) free := by
  obtain ⟨⟨hrc, hrs, hfr, hlo, hws, hcw⟩, hcode, hini, hy, hlen, hl, hin, hse⟩ := cw
  have hK : Back l R p e below s args y 3 8 (PreOf R mc ms Pc) (PostOf Qc mc ms free) := va_backW (hh := hh) (bytes := bytes) (maxL := maxL) (ret := ret) hM hp.1 hrc hrs hfr hlo hws hcw (fun a' U hW => word_at hW (Or.inl (by first | rfl | simp [Cond.onTables, Cond.keeps, Cond.steady])) hini)
  obtain ⟨hx, hb, hml, ho, -⟩ := S
  obtain ⟨-, ⟨cellB, hcB, hoB, hclB⟩, hPc⟩ := hp
  intro T hT X
  obtain ⟨v, vm₁, ⟨U', l2, c2, s2⟩, hW₁, X', ⟨g', mk, t, L, e1, e2, hq, h1, hL, h2, h3⟩, st⟩ := vx_callVW X hx (C := C) (hh := hh) (bytes := bytes) (maxL := maxL) (ret := ret) ho hl hin hse hcode hy hK (by rw [hT]; exact hcB) hoB hclB hg (hsize.trans hml.symm) (argsL := As) (rest := rest) (fun sig h => hn.trans (hlen sig h)) hstack hW (by rw [hb]; exact hdg)
    (fun vm₁ hW₁ => ⟨hf.1, hf.2, hPc (T.setVm vm₁) hT hW₁⟩)
  dsimp only [Pt.U, Pt.locs, Pt.cells, Pt.slots] at X' e1 e2 h1 h2 h3 st
  subst h1; subst h2; subst h3
  exact ⟨v, (T.setVm vm₁).calling g' mk (Value.ref b :: As).toArray, t, U', L, hT, X', hL, e1, e2, hq, st⟩
section
variable {y : MethodName} {bytes cc : ByteArray} {maxL nL mc ms n index : Nat} {ret : Option FieldType} {ws : List Cond} {rm : Room} {Pc : Array Value → State → Prop} {Qc : Array Value → State → Outcome → State → Prop} {XC : String → State → State → Prop} {free : Addr → Prop} {Ts : List Cond} {own C : String} {b : Addr} {As rest : List Value} {g : JFrame}
theorem vx_runVX {hh : List (Nat × Nat × Nat × Nat)} (S : CallFix p m c cc nL s args Ts own) (hM : vx_Met l y ws rm Pc Qc XC mc ms free) (cw : vx_CVW R s args own C index y bytes maxL ret hh ws rm mc ms n) (hp : PreV s H C b Pc As)
    (hg : g.method = m) (hn : As.length = n) (hsize : g.locals.size = nL) (hstack : g.stack = As.reverse ++ .ref b :: rest) (hW : 2 * g.monitorRoom + (rest.map fun v => v.category).sum ≤ 8) (hdg : decode cc g.pc = .ok (.invokevirtual index, 3)) (hf : cells + mc ≤ R.cells ∧ slots + ms ≤ R.slots) :
    vx_Run p l e R s m args below meth c H locs cells slots mc ms g rest (Qc (Value.ref b :: As).toArray) XC free := by
  obtain ⟨⟨hrc, hrs, hfr, hlo, hws, hcw⟩, hcode, hini, hy, hlen, hl, hin, hse⟩ := cw
  have hK : vx_Back l R p e below s args y 3 8 (PreOf R mc ms Pc) (PostOf Qc mc ms free) (vx_Post XC mc ms free) := vx_backW (hh := hh) (bytes := bytes) (maxL := maxL) (ret := ret) hM hp.1 hrc hrs hfr hlo hws hcw (fun a' U hW => word_at hW (Or.inl (by first | rfl | simp [Cond.onTables, Cond.keeps, Cond.steady])) hini)
  obtain ⟨hx, hb, hml, ho, -⟩ := S
  obtain ⟨-, ⟨cellB, hcB, hoB, hclB⟩, hPc⟩ := hp
  intro T hT X
  rcases vx_callVX X hx (C := C) (hh := hh) (bytes := bytes) (maxL := maxL) (ret := ret) ho hl hin hse hcode hy hK (by rw [hT]; exact hcB) hoB hclB hg (hsize.trans hml.symm) (argsL := As) (rest := rest) (fun sig h => hn.trans (hlen sig h)) hstack hW (by rw [hb]; exact hdg)
    (fun vm₁ hW₁ => ⟨hf.1, hf.2, hPc (T.setVm vm₁) hT hW₁⟩) with ⟨v, vm₁, ⟨U', l2, c2, s2⟩, hW₁, X', ⟨g', mk, t, L, e1, e2, hq, h1, hL, h2, h3⟩, st⟩ | ⟨q, vm₁, ⟨U', l2, c2, s2⟩, hW₁, X', ⟨g', mk, t, L, E, ce, e1, e2, hq, hce, hcv, hcl, h1, hL, h2, h3⟩, st⟩
  · dsimp only [Pt.U, Pt.locs, Pt.cells, Pt.slots] at X' e1 e2 h1 h2 h3 st
    subst h1; subst h2; subst h3
    exact Or.inl ⟨v, (T.setVm vm₁).calling g' mk (Value.ref b :: As).toArray, t, U', L, hT, X', hL, e1, e2, hq, st⟩
  · dsimp only [Pt.U, Pt.locs, Pt.cells, Pt.slots] at X' e1 e2 h1 h2 h3 st hcl
    subst h1; subst h2; subst h3
    exact Or.inr ⟨q, (T.setVm vm₁).calling g' mk (Value.ref b :: As).toArray, t, U', L, E, ce, hT, X', hL, e1, e2, hq, hce, hcv, vx_cls hW₁ hcl, st⟩
theorem vx_runSX {hh : List (Nat × Nat × Nat × Nat)} (S : CallFix p m c cc nL s args Ts own) (hM : vx_Met l y ws rm Pc Qc XC mc ms free) (cw : vx_CSW R s args own index y bytes maxL ret hh ws rm mc ms n) (hp : PreS s H Pc As)
    (hg : g.method = m) (hn : As.length = n) (hsize : g.locals.size = nL) (hstack : g.stack = As.reverse ++ rest) (hW : 2 * g.monitorRoom + (rest.map fun v => v.category).sum ≤ 8) (hdg : decode cc g.pc = .ok (.invokestatic index, 3)) (hf : cells + mc ≤ R.cells ∧ slots + ms ≤ R.slots) :
    vx_Run p l e R s m args below meth c H locs cells slots mc ms g rest (Qc As.toArray) XC free := by
  obtain ⟨⟨hrc, hrs, hfr, hlo, hws, hcw⟩, hcode, hini, hy, hlen, hl, hstt⟩ := cw
  have hK : vx_Back l R p e below s args y 3 8 (PreOf R mc ms Pc) (PostOf Qc mc ms free) (vx_Post XC mc ms free) := vx_backW (hh := hh) (bytes := bytes) (maxL := maxL) (ret := ret) hM hp.1 hrc hrs hfr hlo hws hcw (fun a' U hW => word_at hW (Or.inl (by first | rfl | simp [Cond.onTables, Cond.keeps, Cond.steady])) hini)
  obtain ⟨hx, hb, hml, ho, -⟩ := S
  intro T hT X
  rcases vx_callSX X hx (hh := hh) (bytes := bytes) (maxL := maxL) (ret := ret) ho hl hstt hini hcode hy hK hg (hsize.trans hml.symm) (argsL := As) (rest := rest) (fun sig h => hn.trans (hlen sig h)) hstack hW (by rw [hb]; exact hdg)
    (fun vm₁ hW₁ => ⟨hf.1, hf.2, hp.2 (T.setVm vm₁) hT hW₁⟩) with ⟨v, vm₁, ⟨U', l2, c2, s2⟩, hW₁, X', ⟨g', mk, t, L, e1, e2, hq, h1, hL, h2, h3⟩, st⟩ | ⟨q, vm₁, ⟨U', l2, c2, s2⟩, hW₁, X', ⟨g', mk, t, L, E, ce, e1, e2, hq, hce, hcv, hcl, h1, hL, h2, h3⟩, st⟩
  · dsimp only [Pt.U, Pt.locs, Pt.cells, Pt.slots] at X' e1 e2 h1 h2 h3 st
    subst h1; subst h2; subst h3
    exact Or.inl ⟨v, (T.setVm vm₁).calling g' mk As.toArray, t, U', L, hT, X', hL, e1, e2, hq, st⟩
  · dsimp only [Pt.U, Pt.locs, Pt.cells, Pt.slots] at X' e1 e2 h1 h2 h3 st hcl
    subst h1; subst h2; subst h3
    exact Or.inr ⟨q, (T.setVm vm₁).calling g' mk As.toArray, t, U', L, E, ce, hT, X', hL, e1, e2, hq, hce, hcv, vx_cls hW₁ hcl, st⟩
end
end VXH
theorem vx_ofWH {l : Launch} {y : MethodName} {ws ws' : List Cond} {rm : Room} {Pc : Array Value → State → Prop} {Qc : Array Value → State → Outcome → State → Prop} {XC : String → State → State → Prop} {mc ms : Nat} {free : Addr → Prop} {cc : ByteArray} {maxL : Nat} {ret : Option FieldType} {hh : List (Nat × Nat × Nat × Nat)}
    (hy : plainName y.cls = true) (hw : ws = Cond.codeWith y cc maxL ret hh :: ws')
    (body : ∀ p e s m args below meth c s₁, BodyLoose p l y (headSpec ws rm) cc maxL ret e s m args below meth c s₁ → c.maxLocals = maxL → Pc args s →
      W p l e (headSpec ws rm).room s m args below meth c s.heap [] 0 0 (vx_MQ below Qc XC args s mc ms free) (entryFrame m args maxL)) : vx_Met l y ws rm Pc Qc XC mc ms free := by
  refine MetFree.of_bodyS (code := cc) (maxLocals := maxL) (ret := ret) hy ?_ ?_
  · intro args s m h hn
    obtain ⟨m9, meth, c, hn9, h1, h2, h3, h4, -, h5, h6, -⟩ := Cond.codeWith_spec (atoms_spec (ws := ws) h _ (by rw [hw]; exact List.mem_cons_self))
    cases hn.symm.trans hn9
    exact ⟨meth, c, h1, h2, h3, h4, h5, h6⟩
  · intro p e s m args below meth c s₁ B hml hP _
    have hh0 : s₁.heap = s.heap := by rw [B.state]; rfl
    obtain ⟨t, a1, o, b1, b2, b3⟩ := body p e s m args below meth c s₁ B hml hP s₁ hh0 (Stand.of_body B)
    exact ⟨t, o, a1, b1, b2, b3⟩
/-! ===== END ===== -/

/-! ===== BEGIN printed: names, fields, word lists, decode rows ===== -/
def RX0 : String := "SparkBoards$Board"
def TX0 : u_T := fun k => match k with
  | 0 => ("SparkBoards$Board", "columns", "I", false)
  | 1 => ("SparkBoards$Board", "rows", "I", false)
  | 2 => ("SparkBoards$Board", "kinds", "[I", true)
  | _ => ("SparkBoards$Board", "headsBeside", "[I", true)
def tyX0 : Nat → FieldType := fun k => match k with
  | 0 => .int
  | 1 => .int
  | 2 => .array .int
  | _ => .array .int
abbrev wsX00 : List Cond := u_ws RX0 TX0 4
theorem nmX0 : ∀ a, a < 4 → ∀ b, b < 4 → a ≠ b → (TX0 a).2.1 ≠ (TX0 b).2.1 := by decide +kernel
theorem tyX0_ok : ∀ k, k < 4 → parseFieldDescriptor (TX0 k).2.2.1 = some (tyX0 k) := by decide +kernel
abbrev cX0_init : ByteArray := prog_2_method_1_code
def yX0_init : MethodName := ⟨RX0, "<init>", "(II)V"⟩
abbrev cX0_clear : ByteArray := prog_2_method_2_code
def yX0_clear : MethodName := ⟨RX0, "clear", "(II)V"⟩
abbrev cX0_copy : ByteArray := prog_2_method_3_code
def yX0_copy : MethodName := ⟨RX0, "copy", "(LSparkBoards$Board;)V"⟩
abbrev cX0_columns : ByteArray := prog_2_method_4_code
def yX0_columns : MethodName := ⟨RX0, "columns", "()I"⟩
abbrev cX0_rows : ByteArray := prog_2_method_5_code
def yX0_rows : MethodName := ⟨RX0, "rows", "()I"⟩
abbrev cX0_size : ByteArray := prog_2_method_6_code
def yX0_size : MethodName := ⟨RX0, "size", "()I"⟩
abbrev cX0_cell : ByteArray := prog_2_method_7_code
def yX0_cell : MethodName := ⟨RX0, "cell", "(II)I"⟩
abbrev cX0_holds : ByteArray := prog_2_method_8_code
def yX0_holds : MethodName := ⟨RX0, "holds", "(IIII)Z"⟩
abbrev cX0_kind : ByteArray := prog_2_method_9_code
def yX0_kind : MethodName := ⟨RX0, "kind", "(I)I"⟩
abbrev cX0_put : ByteArray := prog_2_method_10_code
def yX0_put : MethodName := ⟨RX0, "put", "(II)V"⟩
abbrev cX0_many : ByteArray := prog_2_method_11_code
def yX0_many : MethodName := ⟨RX0, "many", "(I)I"⟩
abbrev cX0_headsAround : ByteArray := prog_2_method_12_code
def yX0_headsAround : MethodName := ⟨RX0, "headsAround", "(II)I"⟩
abbrev cX0_wiredAround : ByteArray := prog_2_method_13_code
def yX0_wiredAround : MethodName := ⟨RX0, "wiredAround", "(II)I"⟩
abbrev cX0_neighbour : ByteArray := prog_2_method_14_code
def yX0_neighbour : MethodName := ⟨RX0, "neighbour", "(III)I"⟩
abbrev cX0_next : ByteArray := prog_2_method_15_code
def yX0_next : MethodName := ⟨RX0, "next", "(II)I"⟩
abbrev cX0_step : ByteArray := prog_2_method_16_code
def yX0_step : MethodName := ⟨RX0, "step", "()V"⟩
abbrev cX0_countHeadsBeside : ByteArray := prog_2_method_17_code
def yX0_countHeadsBeside : MethodName := ⟨RX0, "countHeadsBeside", "()V"⟩
abbrev cX0_tellNeighbours : ByteArray := prog_2_method_18_code
def yX0_tellNeighbours : MethodName := ⟨RX0, "tellNeighbours", "(II)V"⟩
def RX1 : String := "SparkBoards$Lamps"
def TX1 : u_T := fun k => match k with
  | 0 => ("SparkBoards$Lamps", "many", "I", false)
  | 1 => ("SparkBoards$Lamps", "columns", "[I", true)
  | 2 => ("SparkBoards$Lamps", "rows", "[I", true)
  | 3 => ("SparkBoards$Lamps", "lit", "[I", true)
  | _ => ("SparkBoards$Lamps", "latest", "[I", true)
def tyX1 : Nat → FieldType := fun k => match k with
  | 0 => .int
  | 1 => .array .int
  | 2 => .array .int
  | 3 => .array .int
  | _ => .array .int
abbrev wsX10 : List Cond := u_ws RX1 TX1 5
theorem nmX1 : ∀ a, a < 5 → ∀ b, b < 5 → a ≠ b → (TX1 a).2.1 ≠ (TX1 b).2.1 := by decide +kernel
theorem tyX1_ok : ∀ k, k < 5 → parseFieldDescriptor (TX1 k).2.2.1 = some (tyX1 k) := by decide +kernel
abbrev cX1_init : ByteArray := prog_3_method_1_code
def yX1_init : MethodName := ⟨RX1, "<init>", "()V"⟩
abbrev cX1_clear : ByteArray := prog_3_method_2_code
def yX1_clear : MethodName := ⟨RX1, "clear", "()V"⟩
abbrev cX1_many : ByteArray := prog_3_method_3_code
def yX1_many : MethodName := ⟨RX1, "many", "()I"⟩
abbrev cX1_add : ByteArray := prog_3_method_4_code
def yX1_add : MethodName := ⟨RX1, "add", "(II)I"⟩
abbrev cX1_column : ByteArray := prog_3_method_5_code
def yX1_column : MethodName := ⟨RX1, "column", "(I)I"⟩
abbrev cX1_row : ByteArray := prog_3_method_6_code
def yX1_row : MethodName := ⟨RX1, "row", "(I)I"⟩
abbrev cX1_lit : ByteArray := prog_3_method_7_code
def yX1_lit : MethodName := ⟨RX1, "lit", "(I)I"⟩
abbrev cX1_latest : ByteArray := prog_3_method_8_code
def yX1_latest : MethodName := ⟨RX1, "latest", "(I)I"⟩
abbrev cX1_litInAll : ByteArray := prog_3_method_9_code
def yX1_litInAll : MethodName := ⟨RX1, "litInAll", "()I"⟩
abbrev cX1_alight : ByteArray := prog_3_method_10_code
def yX1_alight : MethodName := ⟨RX1, "alight", "(LSparkBoards$Board;)I"⟩
abbrev cX1_light : ByteArray := prog_3_method_11_code
def yX1_light : MethodName := ⟨RX1, "light", "(LSparkBoards$Board;I)V"⟩
abbrev cX1_isLamp : ByteArray := prog_3_method_12_code
def yX1_isLamp : MethodName := ⟨RX1, "isLamp", "(I)Z"⟩
abbrev cX1_isAlight : ByteArray := prog_3_method_13_code
def yX1_isAlight : MethodName := ⟨RX1, "isAlight", "(LSparkBoards$Board;I)Z"⟩
def RX2 : String := "SparkBoards$Past"
def TX2 : u_T := fun k => match k with
  | _ => ("SparkBoards$Past", "words", "[J", true)
def tyX2 : Nat → FieldType := fun k => match k with
  | _ => .array .long
abbrev wsX20 : List Cond := u_ws RX2 TX2 1
theorem nmX2 : ∀ a, a < 1 → ∀ b, b < 1 → a ≠ b → (TX2 a).2.1 ≠ (TX2 b).2.1 := by decide +kernel
theorem tyX2_ok : ∀ k, k < 1 → parseFieldDescriptor (TX2 k).2.2.1 = some (tyX2 k) := by decide +kernel
abbrev cX2_init : ByteArray := prog_4_method_1_code
def yX2_init : MethodName := ⟨RX2, "<init>", "()V"⟩
abbrev cX2_keep : ByteArray := prog_4_method_2_code
def yX2_keep : MethodName := ⟨RX2, "keep", "(ILSparkBoards$Board;)V"⟩
abbrev cX2_firstLike : ByteArray := prog_4_method_3_code
def yX2_firstLike : MethodName := ⟨RX2, "firstLike", "(I)I"⟩
abbrev cX2_packed : ByteArray := prog_4_method_4_code
def yX2_packed : MethodName := ⟨RX2, "packed", "(LSparkBoards$Board;I)J"⟩
abbrev cX2_isSame : ByteArray := prog_4_method_5_code
def yX2_isSame : MethodName := ⟨RX2, "isSame", "(II)Z"⟩
def RX3 : String := "SparkBoards$Wires"
def TX3 : u_T := fun k => match k with
  | 0 => ("SparkBoards$Wires", "far", "[I", true)
  | 1 => ("SparkBoards$Wires", "reachedX", "[I", true)
  | _ => ("SparkBoards$Wires", "reachedY", "[I", true)
def tyX3 : Nat → FieldType := fun k => match k with
  | 0 => .array .int
  | 1 => .array .int
  | _ => .array .int
abbrev wsX30 : List Cond := u_ws RX3 TX3 3
theorem nmX3 : ∀ a, a < 3 → ∀ b, b < 3 → a ≠ b → (TX3 a).2.1 ≠ (TX3 b).2.1 := by decide +kernel
theorem tyX3_ok : ∀ k, k < 3 → parseFieldDescriptor (TX3 k).2.2.1 = some (tyX3 k) := by decide +kernel
abbrev cX3_init : ByteArray := prog_5_method_1_code
def yX3_init : MethodName := ⟨RX3, "<init>", "()V"⟩
abbrev cX3_sizeOfPiece : ByteArray := prog_5_method_2_code
def yX3_sizeOfPiece : MethodName := ⟨RX3, "sizeOfPiece", "(LSparkBoards$Board;II)I"⟩
abbrev cX3_pieces : ByteArray := prog_5_method_3_code
def yX3_pieces : MethodName := ⟨RX3, "pieces", "(LSparkBoards$Board;)I"⟩
abbrev cX3_sizeOfLongest : ByteArray := prog_5_method_4_code
def yX3_sizeOfLongest : MethodName := ⟨RX3, "sizeOfLongest", "(LSparkBoards$Board;)I"⟩
abbrev cX3_far : ByteArray := prog_5_method_5_code
def yX3_far : MethodName := ⟨RX3, "far", "(LSparkBoards$Board;III)I"⟩
abbrev cX3_forget : ByteArray := prog_5_method_6_code
def yX3_forget : MethodName := ⟨RX3, "forget", "()V"⟩
abbrev cX3_reach : ByteArray := prog_5_method_7_code
def yX3_reach : MethodName := ⟨RX3, "reach", "(LSparkBoards$Board;II)I"⟩
abbrev cX3_visit : ByteArray := prog_5_method_8_code
def yX3_visit : MethodName := ⟨RX3, "visit", "(LSparkBoards$Board;IIII)I"⟩
def RX4 : String := "SparkBoards"
def TX4 : u_T := fun k => match k with
  | 0 => ("SparkBoards", "board", "LSparkBoards$Board;", true)
  | 1 => ("SparkBoards", "trial", "LSparkBoards$Board;", true)
  | 2 => ("SparkBoards", "wires", "LSparkBoards$Wires;", true)
  | 3 => ("SparkBoards", "lamps", "LSparkBoards$Lamps;", true)
  | 4 => ("SparkBoards", "past", "LSparkBoards$Past;", true)
  | 5 => ("SparkBoards", "stepsGone", "I", false)
  | _ => ("SparkBoards", "headsOfAllSteps", "J", false)
def tyX4 : Nat → FieldType := fun k => match k with
  | 0 => .object "SparkBoards$Board"
  | 1 => .object "SparkBoards$Board"
  | 2 => .object "SparkBoards$Wires"
  | 3 => .object "SparkBoards$Lamps"
  | 4 => .object "SparkBoards$Past"
  | 5 => .int
  | _ => .long
abbrev wsX40 : List Cond := u_ws RX4 TX4 7
theorem nmX4 : ∀ a, a < 7 → ∀ b, b < 7 → a ≠ b → (TX4 a).2.1 ≠ (TX4 b).2.1 := by decide +kernel
theorem tyX4_ok : ∀ k, k < 7 → parseFieldDescriptor (TX4 k).2.2.1 = some (tyX4 k) := by decide +kernel
abbrev cX4_init : ByteArray := prog_1_method_1_code
def yX4_init : MethodName := ⟨RX4, "<init>", "()V"⟩
abbrev cX4_setBoard : ByteArray := prog_1_method_2_code
def yX4_setBoard : MethodName := ⟨RX4, "setBoard", "(II)I"⟩
abbrev cX4_set : ByteArray := prog_1_method_3_code
def yX4_set : MethodName := ⟨RX4, "set", "(III)I"⟩
abbrev cX4_line : ByteArray := prog_1_method_4_code
def yX4_line : MethodName := ⟨RX4, "line", "(IIII)I"⟩
abbrev cX4_ring : ByteArray := prog_1_method_5_code
def yX4_ring : MethodName := ⟨RX4, "ring", "(IIII)I"⟩
abbrev cX4_stamp : ByteArray := prog_1_method_6_code
def yX4_stamp : MethodName := ⟨RX4, "stamp", "(IIII)I"⟩
abbrev cX4_spark : ByteArray := prog_1_method_7_code
def yX4_spark : MethodName := ⟨RX4, "spark", "(III)I"⟩
abbrev cX4_lamp : ByteArray := prog_1_method_8_code
def yX4_lamp : MethodName := ⟨RX4, "lamp", "(II)I"⟩
abbrev cX4_pass : ByteArray := prog_1_method_9_code
def yX4_pass : MethodName := ⟨RX4, "pass", "(I)I"⟩
abbrev cX4_told : ByteArray := prog_1_method_10_code
def yX4_told : MethodName := ⟨RX4, "told", "(III)I"⟩
abbrev cX4_about : ByteArray := prog_1_method_11_code
def yX4_about : MethodName := ⟨RX4, "about", "(II)I"⟩
abbrev cX4_count : ByteArray := prog_1_method_12_code
def yX4_count : MethodName := ⟨RX4, "count", "(I)I"⟩
abbrev cX4_way : ByteArray := prog_1_method_13_code
def yX4_way : MethodName := ⟨RX4, "way", "(IIII)I"⟩
abbrev cX4_period : ByteArray := prog_1_method_14_code
def yX4_period : MethodName := ⟨RX4, "period", "(I)I"⟩
abbrev cX4_until : ByteArray := prog_1_method_15_code
def yX4_until : MethodName := ⟨RX4, "until", "(II)I"⟩
abbrev cX4_foresee : ByteArray := prog_1_method_16_code
def yX4_foresee : MethodName := ⟨RX4, "foresee", "(II)I"⟩
abbrev cX4_advise : ByteArray := prog_1_method_17_code
def yX4_advise : MethodName := ⟨RX4, "advise", "(I)I"⟩
abbrev cX4_mean : ByteArray := prog_1_method_18_code
def yX4_mean : MethodName := ⟨RX4, "mean", "()D"⟩
abbrev cX4_digest : ByteArray := prog_1_method_19_code
def yX4_digest : MethodName := ⟨RX4, "digest", "()J"⟩
abbrev cX4_isSide : ByteArray := prog_1_method_20_code
def yX4_isSide : MethodName := ⟨RX4, "isSide", "(I)Z"⟩
abbrev cX4_turned : ByteArray := prog_1_method_21_code
def yX4_turned : MethodName := ⟨RX4, "turned", "(II)I"⟩
abbrev cX4_lay : ByteArray := prog_1_method_22_code
def yX4_lay : MethodName := ⟨RX4, "lay", "(II)I"⟩
abbrev cX4_headsOfTrial : ByteArray := prog_1_method_23_code
def yX4_headsOfTrial : MethodName := ⟨RX4, "headsOfTrial", "(I)I"⟩
def RX5 : String := "SparkBoardsModel"
def TX5 : u_T := fun k => match k with
  | 0 => ("SparkBoardsModel", "thrown", "I", false)
  | 1 => ("SparkBoardsModel", "columns", "I", false)
  | 2 => ("SparkBoardsModel", "rows", "I", false)
  | 3 => ("SparkBoardsModel", "steps", "I", false)
  | 4 => ("SparkBoardsModel", "added", "I", false)
  | 5 => ("SparkBoardsModel", "lamps", "I", false)
  | 6 => ("SparkBoardsModel", "now", "[I", true)
  | 7 => ("SparkBoardsModel", "kept", "[I", true)
  | 8 => ("SparkBoardsModel", "other", "[I", true)
  | 9 => ("SparkBoardsModel", "lampRow", "[I", true)
  | 10 => ("SparkBoardsModel", "lampKept", "[I", true)
  | 11 => ("SparkBoardsModel", "were", "[I", true)
  | 12 => ("SparkBoardsModel", "marks", "[I", true)
  | _ => ("SparkBoardsModel", "line", "[I", true)
def tyX5 : Nat → FieldType := fun k => match k with
  | 0 => .int
  | 1 => .int
  | 2 => .int
  | 3 => .int
  | 4 => .int
  | 5 => .int
  | 6 => .array .int
  | 7 => .array .int
  | 8 => .array .int
  | 9 => .array .int
  | 10 => .array .int
  | 11 => .array .int
  | 12 => .array .int
  | _ => .array .int
abbrev wsX50 : List Cond := u_ws RX5 TX5 14
theorem nmX5 : ∀ a, a < 14 → ∀ b, b < 14 → a ≠ b → (TX5 a).2.1 ≠ (TX5 b).2.1 := by decide +kernel
theorem tyX5_ok : ∀ k, k < 14 → parseFieldDescriptor (TX5 k).2.2.1 = some (tyX5 k) := by decide +kernel
abbrev cX5_init : ByteArray := prog_7_method_1_code
def yX5_init : MethodName := ⟨RX5, "<init>", "()V"⟩
abbrev cX5_thrown : ByteArray := prog_7_method_2_code
def yX5_thrown : MethodName := ⟨RX5, "thrown", "()I"⟩
abbrev cX5_fail : ByteArray := prog_7_method_3_code
def yX5_fail : MethodName := ⟨RX5, "fail", "(I)I"⟩
abbrev cX5_isIn : ByteArray := prog_7_method_4_code
def yX5_isIn : MethodName := ⟨RX5, "isIn", "(III)Z"⟩
abbrev cX5_isCell : ByteArray := prog_7_method_5_code
def yX5_isCell : MethodName := ⟨RX5, "isCell", "(II)Z"⟩
abbrev cX5_at : ByteArray := prog_7_method_6_code
def yX5_at : MethodName := ⟨RX5, "at", "(II)I"⟩
abbrev cX5_cell : ByteArray := prog_7_method_7_code
def yX5_cell : MethodName := ⟨RX5, "cell", "(I)I"⟩
abbrev cX5_around : ByteArray := prog_7_method_8_code
def yX5_around : MethodName := ⟨RX5, "around", "(II)I"⟩
abbrev cX5_next : ByteArray := prog_7_method_9_code
def yX5_next : MethodName := ⟨RX5, "next", "(I)I"⟩
abbrev cX5_cells : ByteArray := prog_7_method_10_code
def yX5_cells : MethodName := ⟨RX5, "cells", "(I)I"⟩
abbrev cX5_step : ByteArray := prog_7_method_11_code
def yX5_step : MethodName := ⟨RX5, "step", "()V"⟩
abbrev cX5_light : ByteArray := prog_7_method_12_code
def yX5_light : MethodName := ⟨RX5, "light", "(I)V"⟩
abbrev cX5_keep : ByteArray := prog_7_method_13_code
def yX5_keep : MethodName := ⟨RX5, "keep", "()V"⟩
abbrev cX5_bringBack : ByteArray := prog_7_method_14_code
def yX5_bringBack : MethodName := ⟨RX5, "bringBack", "()V"⟩
abbrev cX5_setBoard : ByteArray := prog_7_method_15_code
def yX5_setBoard : MethodName := ⟨RX5, "setBoard", "(II)I"⟩
abbrev cX5_set : ByteArray := prog_7_method_16_code
def yX5_set : MethodName := ⟨RX5, "set", "(III)I"⟩
abbrev cX5_lay : ByteArray := prog_7_method_17_code
def yX5_lay : MethodName := ⟨RX5, "lay", "(I)I"⟩
abbrev cX5_line : ByteArray := prog_7_method_18_code
def yX5_line : MethodName := ⟨RX5, "line", "(IIII)I"⟩
abbrev cX5_ring : ByteArray := prog_7_method_19_code
def yX5_ring : MethodName := ⟨RX5, "ring", "(IIII)I"⟩
abbrev cX5_stamp : ByteArray := prog_7_method_20_code
def yX5_stamp : MethodName := ⟨RX5, "stamp", "(IIII)I"⟩
abbrev cX5_spark : ByteArray := prog_7_method_21_code
def yX5_spark : MethodName := ⟨RX5, "spark", "(III)I"⟩
abbrev cX5_lamp : ByteArray := prog_7_method_22_code
def yX5_lamp : MethodName := ⟨RX5, "lamp", "(II)I"⟩
abbrev cX5_pass : ByteArray := prog_7_method_23_code
def yX5_pass : MethodName := ⟨RX5, "pass", "(I)I"⟩
abbrev cX5_spread : ByteArray := prog_7_method_24_code
def yX5_spread : MethodName := ⟨RX5, "spread", "(I)I"⟩
abbrev cX5_piece : ByteArray := prog_7_method_25_code
def yX5_piece : MethodName := ⟨RX5, "piece", "(I)I"⟩
abbrev cX5_cellTold : ByteArray := prog_7_method_26_code
def yX5_cellTold : MethodName := ⟨RX5, "cellTold", "(II)I"⟩
abbrev cX5_told : ByteArray := prog_7_method_27_code
def yX5_told : MethodName := ⟨RX5, "told", "(III)I"⟩
abbrev cX5_lampTold : ByteArray := prog_7_method_28_code
def yX5_lampTold : MethodName := ⟨RX5, "lampTold", "(II)I"⟩
abbrev cX5_about : ByteArray := prog_7_method_29_code
def yX5_about : MethodName := ⟨RX5, "about", "(II)I"⟩
abbrev cX5_pieces : ByteArray := prog_7_method_30_code
def yX5_pieces : MethodName := ⟨RX5, "pieces", "(Z)I"⟩
abbrev cX5_lit : ByteArray := prog_7_method_31_code
def yX5_lit : MethodName := ⟨RX5, "lit", "()I"⟩
abbrev cX5_counted : ByteArray := prog_7_method_32_code
def yX5_counted : MethodName := ⟨RX5, "counted", "(I)I"⟩
abbrev cX5_count : ByteArray := prog_7_method_33_code
def yX5_count : MethodName := ⟨RX5, "count", "(I)I"⟩
abbrev cX5_way : ByteArray := prog_7_method_34_code
def yX5_way : MethodName := ⟨RX5, "way", "(IIII)I"⟩
abbrev cX5_isAsIt : ByteArray := prog_7_method_35_code
def yX5_isAsIt : MethodName := ⟨RX5, "isAsIt", "(I)Z"⟩
abbrev cX5_period : ByteArray := prog_7_method_36_code
def yX5_period : MethodName := ⟨RX5, "period", "(I)I"⟩
abbrev cX5_until : ByteArray := prog_7_method_37_code
def yX5_until : MethodName := ⟨RX5, "until", "(II)I"⟩
abbrev cX5_foresee : ByteArray := prog_7_method_38_code
def yX5_foresee : MethodName := ⟨RX5, "foresee", "(II)I"⟩
abbrev cX5_heads : ByteArray := prog_7_method_39_code
def yX5_heads : MethodName := ⟨RX5, "heads", "(I)I"⟩
abbrev cX5_advise : ByteArray := prog_7_method_40_code
def yX5_advise : MethodName := ⟨RX5, "advise", "(I)I"⟩
abbrev cX5_mean : ByteArray := prog_7_method_41_code
def yX5_mean : MethodName := ⟨RX5, "mean", "()D"⟩
abbrev cX5_digest : ByteArray := prog_7_method_42_code
def yX5_digest : MethodName := ⟨RX5, "digest", "()J"⟩
def RJx145de : String := "java/io/Serializable"
def TJx145de : u_T := fun k => match k with
  | _ => ("", "", "", false)
def tyJx145de : Nat → FieldType := fun k => match k with
  | _ => .int
abbrev wsJx145de0 : List Cond := u_ws RJx145de TJx145de 0
theorem nmJx145de : ∀ a, a < 0 → ∀ b, b < 0 → a ≠ b → (TJx145de a).2.1 ≠ (TJx145de b).2.1 := by decide +kernel
theorem tyJx145de_ok : ∀ k, k < 0 → parseFieldDescriptor (TJx145de k).2.2.1 = some (tyJx145de k) := by decide +kernel
def RJ6 : String := "java/lang/Integer"
def TJ6 : u_T := fun k => match k with
  | _ => ("", "", "", false)
def tyJ6 : Nat → FieldType := fun k => match k with
  | _ => .int
abbrev wsJ60 : List Cond := u_ws RJ6 TJ6 0
theorem nmJ6 : ∀ a, a < 0 → ∀ b, b < 0 → a ≠ b → (TJ6 a).2.1 ≠ (TJ6 b).2.1 := by decide +kernel
theorem tyJ6_ok : ∀ k, k < 0 → parseFieldDescriptor (TJ6 k).2.2.1 = some (tyJ6 k) := by decide +kernel
abbrev cJ6_compare_7cf53 : ByteArray := prog_12_method_40_code
def yJ6_compare_7cf53 : MethodName := ⟨RJ6, "compare", "(II)I"⟩
abbrev cJ6_signum_0f7a4 : ByteArray := prog_12_method_56_code
def yJ6_signum_0f7a4 : MethodName := ⟨RJ6, "signum", "(I)I"⟩
def RJ9 : String := "java/lang/Math"
def TJ9 : u_T := fun k => match k with
  | _ => ("", "", "", false)
def tyJ9 : Nat → FieldType := fun k => match k with
  | _ => .int
abbrev wsJ90 : List Cond := u_ws RJ9 TJ9 0
theorem nmJ9 : ∀ a, a < 0 → ∀ b, b < 0 → a ≠ b → (TJ9 a).2.1 ≠ (TJ9 b).2.1 := by decide +kernel
theorem tyJ9_ok : ∀ k, k < 0 → parseFieldDescriptor (TJ9 k).2.2.1 = some (tyJ9 k) := by decide +kernel
abbrev cJ9_abs_0f7a4 : ByteArray := prog_13_method_59_code
def yJ9_abs_0f7a4 : MethodName := ⟨RJ9, "abs", "(I)I"⟩
abbrev cJ9_max_7cf53 : ByteArray := prog_13_method_65_code
def yJ9_max_7cf53 : MethodName := ⟨RJ9, "max", "(II)I"⟩
def RJ0 : String := "java/lang/String"
def TJ0 : u_T := fun k => match k with
  | _ => ("", "", "", false)
def tyJ0 : Nat → FieldType := fun k => match k with
  | _ => .int
abbrev wsJ00 : List Cond := u_ws RJ0 TJ0 0
theorem nmJ0 : ∀ a, a < 0 → ∀ b, b < 0 → a ≠ b → (TJ0 a).2.1 ≠ (TJ0 b).2.1 := by decide +kernel
theorem tyJ0_ok : ∀ k, k < 0 → parseFieldDescriptor (TJ0 k).2.2.1 = some (tyJ0 k) := by decide +kernel
def RJ10 : String := "java/lang/System"
def TJ10 : u_T := fun k => match k with
  | _ => ("", "", "", false)
def tyJ10 : Nat → FieldType := fun k => match k with
  | _ => .int
abbrev wsJ100 : List Cond := u_ws RJ10 TJ10 0
theorem nmJ10 : ∀ a, a < 0 → ∀ b, b < 0 → a ≠ b → (TJ10 a).2.1 ≠ (TJ10 b).2.1 := by decide +kernel
theorem tyJ10_ok : ∀ k, k < 0 → parseFieldDescriptor (TJ10 k).2.2.1 = some (tyJ10 k) := by decide +kernel
def RJ7 : String := "java/util/Arrays"
def TJ7 : u_T := fun k => match k with
  | _ => ("", "", "", false)
def tyJ7 : Nat → FieldType := fun k => match k with
  | _ => .int
abbrev wsJ70 : List Cond := u_ws RJ7 TJ7 0
theorem nmJ7 : ∀ a, a < 0 → ∀ b, b < 0 → a ≠ b → (TJ7 a).2.1 ≠ (TJ7 b).2.1 := by decide +kernel
theorem tyJ7_ok : ∀ k, k < 0 → parseFieldDescriptor (TJ7 k).2.2.1 = some (tyJ7 k) := by decide +kernel
abbrev cJ7_fill_53178 : ByteArray := prog_18_method_103_code
def yJ7_fill_53178 : MethodName := ⟨RJ7, "fill", "([II)V"⟩
def RL : String := "SparkBoardsLaw"
abbrev cL_setBoard : ByteArray := method_3_code
def yL_setBoard : MethodName := ⟨RL, "setBoard", "(LSparkBoards;II[J)I"⟩
abbrev cL_set : ByteArray := method_4_code
def yL_set : MethodName := ⟨RL, "set", "(LSparkBoards;III[J)I"⟩
abbrev cL_line : ByteArray := method_5_code
def yL_line : MethodName := ⟨RL, "line", "(LSparkBoards;IIII[J)I"⟩
abbrev cL_ring : ByteArray := method_6_code
def yL_ring : MethodName := ⟨RL, "ring", "(LSparkBoards;IIII[J)I"⟩
abbrev cL_stamp : ByteArray := method_7_code
def yL_stamp : MethodName := ⟨RL, "stamp", "(LSparkBoards;IIII[J)I"⟩
abbrev cL_spark : ByteArray := method_8_code
def yL_spark : MethodName := ⟨RL, "spark", "(LSparkBoards;III[J)I"⟩
abbrev cL_lamp : ByteArray := method_9_code
def yL_lamp : MethodName := ⟨RL, "lamp", "(LSparkBoards;II[J)I"⟩
abbrev cL_pass : ByteArray := method_10_code
def yL_pass : MethodName := ⟨RL, "pass", "(LSparkBoards;I[J)I"⟩
abbrev cL_told : ByteArray := method_11_code
def yL_told : MethodName := ⟨RL, "told", "(LSparkBoards;III[J)I"⟩
abbrev cL_about : ByteArray := method_12_code
def yL_about : MethodName := ⟨RL, "about", "(LSparkBoards;II[J)I"⟩
abbrev cL_count : ByteArray := method_13_code
def yL_count : MethodName := ⟨RL, "count", "(LSparkBoards;I[J)I"⟩
abbrev cL_way : ByteArray := method_14_code
def yL_way : MethodName := ⟨RL, "way", "(LSparkBoards;IIII[J)I"⟩
abbrev cL_period : ByteArray := method_15_code
def yL_period : MethodName := ⟨RL, "period", "(LSparkBoards;I[J)I"⟩
abbrev cL_until : ByteArray := method_16_code
def yL_until : MethodName := ⟨RL, "until", "(LSparkBoards;II[J)I"⟩
abbrev cL_foresee : ByteArray := method_17_code
def yL_foresee : MethodName := ⟨RL, "foresee", "(LSparkBoards;II[J)I"⟩
abbrev cL_advise : ByteArray := method_18_code
def yL_advise : MethodName := ⟨RL, "advise", "(LSparkBoards;I[J)I"⟩
abbrev cL_law : ByteArray := code
def yL_law : MethodName := ⟨RL, "law", "([I)Z"⟩
def wsX0_init : List Cond := .code yX0_init cX0_init 3 none :: ([.methodLink RX0 3 objectInit, .instanceMethod objectInit, .code objectInit ⟨#[0xb1]⟩ 1 none, .fieldLink RX0 9 "SparkBoards$Board" "columns" "I", .fieldLink RX0 15 "SparkBoards$Board" "rows" "I", .arrayClass .int, .fieldLink RX0 18 "SparkBoards$Board" "kinds" "[I", .fieldLink RX0 22 "SparkBoards$Board" "headsBeside" "[I"] ++ wsX00)
def wsJ7_fill_53178 : List Cond := .code yJ7_fill_53178 cJ7_fill_53178 4 none :: ([])
def wsX0_clear : List Cond := .code yX0_clear cX0_clear 3 none :: ([.fieldLink RX0 9 "SparkBoards$Board" "columns" "I", .fieldLink RX0 15 "SparkBoards$Board" "rows" "I", .fieldLink RX0 18 "SparkBoards$Board" "kinds" "[I", .methodLink RX0 25 yJ7_fill_53178, .static yJ7_fill_53178, .initialized RJ7, .code yJ7_fill_53178 cJ7_fill_53178 4 none] ++ wsX00)
def wsX0_copy : List Cond := .code yX0_copy cX0_copy 2 none :: ([.fieldLink RX0 9 "SparkBoards$Board" "columns" "I", .fieldLink RX0 15 "SparkBoards$Board" "rows" "I", .fieldLink RX0 18 "SparkBoards$Board" "kinds" "[I", .methodLink RX0 31 arraycopyName, .native arraycopyName, .static arraycopyName, .initialized "java/lang/System"] ++ wsX00)
def wsX0_columns : List Cond := .code yX0_columns cX0_columns 1 (some .int) :: ([.fieldLink RX0 9 "SparkBoards$Board" "columns" "I"] ++ wsX00)
def wsX0_rows : List Cond := .code yX0_rows cX0_rows 1 (some .int) :: ([.fieldLink RX0 15 "SparkBoards$Board" "rows" "I"] ++ wsX00)
def wsX0_size : List Cond := .code yX0_size cX0_size 1 (some .int) :: ([.fieldLink RX0 9 "SparkBoards$Board" "columns" "I", .fieldLink RX0 15 "SparkBoards$Board" "rows" "I"] ++ wsX00)
def wsX0_cell : List Cond := .code yX0_cell cX0_cell 3 (some .int) :: ([.fieldLink RX0 9 "SparkBoards$Board" "columns" "I", .fieldLink RX0 15 "SparkBoards$Board" "rows" "I"] ++ wsX00)
def wsX0_holds : List Cond := .code yX0_holds cX0_holds 5 (some .boolean) :: ([.fieldLink RX0 9 "SparkBoards$Board" "columns" "I", .fieldLink RX0 15 "SparkBoards$Board" "rows" "I", .methodLink RX0 37 yX0_cell, .instanceMethod yX0_cell, .selects RX0 yX0_cell yX0_cell, .initialized RX0, .code yX0_cell cX0_cell 3 (some .int)] ++ wsX00)
def wsX0_kind : List Cond := .code yX0_kind cX0_kind 2 (some .int) :: ([.fieldLink RX0 18 "SparkBoards$Board" "kinds" "[I"] ++ wsX00)
def wsX0_put : List Cond := .code yX0_put cX0_put 3 none :: ([.fieldLink RX0 18 "SparkBoards$Board" "kinds" "[I"] ++ wsX00)
def wsX0_many : List Cond := .code yX0_many cX0_many 4 (some .int) :: ([.methodLink RX0 41 yX0_size, .instanceMethod yX0_size, .selects RX0 yX0_size yX0_size, .initialized RX0, .code yX0_size cX0_size 1 (some .int), .fieldLink RX0 9 "SparkBoards$Board" "columns" "I", .fieldLink RX0 15 "SparkBoards$Board" "rows" "I", .methodLink RX0 45 yX0_kind, .instanceMethod yX0_kind, .selects RX0 yX0_kind yX0_kind, .code yX0_kind cX0_kind 2 (some .int), .fieldLink RX0 18 "SparkBoards$Board" "kinds" "[I"] ++ wsX00)
def wsX0_neighbour : List Cond := .code yX0_neighbour cX0_neighbour 4 (some .int) :: ([.methodLink RX0 37 yX0_cell, .instanceMethod yX0_cell, .selects RX0 yX0_cell yX0_cell, .initialized RX0, .code yX0_cell cX0_cell 3 (some .int), .fieldLink RX0 9 "SparkBoards$Board" "columns" "I", .fieldLink RX0 15 "SparkBoards$Board" "rows" "I"] ++ wsX00)
def wsX0_headsAround : List Cond := .code yX0_headsAround cX0_headsAround 5 (some .int) :: ([.methodLink RX0 49 yX0_neighbour, .instanceMethod yX0_neighbour, .selects RX0 yX0_neighbour yX0_neighbour, .initialized RX0, .code yX0_neighbour cX0_neighbour 4 (some .int), .methodLink RX0 37 yX0_cell, .instanceMethod yX0_cell, .selects RX0 yX0_cell yX0_cell, .code yX0_cell cX0_cell 3 (some .int), .fieldLink RX0 9 "SparkBoards$Board" "columns" "I", .fieldLink RX0 15 "SparkBoards$Board" "rows" "I", .methodLink RX0 45 yX0_kind, .instanceMethod yX0_kind, .selects RX0 yX0_kind yX0_kind, .code yX0_kind cX0_kind 2 (some .int), .fieldLink RX0 18 "SparkBoards$Board" "kinds" "[I"] ++ wsX00)
def wsX0_wiredAround : List Cond := .code yX0_wiredAround cX0_wiredAround 5 (some .int) :: ([.methodLink RX0 49 yX0_neighbour, .instanceMethod yX0_neighbour, .selects RX0 yX0_neighbour yX0_neighbour, .initialized RX0, .code yX0_neighbour cX0_neighbour 4 (some .int), .methodLink RX0 37 yX0_cell, .instanceMethod yX0_cell, .selects RX0 yX0_cell yX0_cell, .code yX0_cell cX0_cell 3 (some .int), .fieldLink RX0 9 "SparkBoards$Board" "columns" "I", .fieldLink RX0 15 "SparkBoards$Board" "rows" "I", .methodLink RX0 45 yX0_kind, .instanceMethod yX0_kind, .selects RX0 yX0_kind yX0_kind, .code yX0_kind cX0_kind 2 (some .int), .fieldLink RX0 18 "SparkBoards$Board" "kinds" "[I"] ++ wsX00)
def wsX0_next : List Cond := .code yX0_next cX0_next 2 (some .int) :: ([])
def wsX0_tellNeighbours : List Cond := .code yX0_tellNeighbours cX0_tellNeighbours 5 none :: ([.fieldLink RX0 22 "SparkBoards$Board" "headsBeside" "[I", .methodLink RX0 49 yX0_neighbour, .instanceMethod yX0_neighbour, .selects RX0 yX0_neighbour yX0_neighbour, .initialized RX0, .code yX0_neighbour cX0_neighbour 4 (some .int), .methodLink RX0 37 yX0_cell, .instanceMethod yX0_cell, .selects RX0 yX0_cell yX0_cell, .code yX0_cell cX0_cell 3 (some .int), .fieldLink RX0 9 "SparkBoards$Board" "columns" "I", .fieldLink RX0 15 "SparkBoards$Board" "rows" "I"] ++ wsX00)
def wsX0_countHeadsBeside_r1 : List Cond := [Cond.fieldLink RX0 22 "SparkBoards$Board" "headsBeside" "[I", Cond.fieldLink RX0 15 "SparkBoards$Board" "rows" "I", Cond.fieldLink RX0 9 "SparkBoards$Board" "columns" "I", Cond.methodLink RX0 25 yJ7_fill_53178, Cond.static yJ7_fill_53178, Cond.initialized RJ7, Cond.code yJ7_fill_53178 cJ7_fill_53178 4 none, Cond.methodLink RX0 37 yX0_cell, Cond.instanceMethod yX0_cell, Cond.selects RX0 yX0_cell yX0_cell, Cond.initialized RX0, Cond.code yX0_cell cX0_cell 3 (some .int), Cond.methodLink RX0 45 yX0_kind, Cond.instanceMethod yX0_kind, Cond.selects RX0 yX0_kind yX0_kind, Cond.code yX0_kind cX0_kind 2 (some .int), Cond.fieldLink RX0 18 "SparkBoards$Board" "kinds" "[I", Cond.methodLink RX0 65 yX0_tellNeighbours, Cond.instanceMethod yX0_tellNeighbours, Cond.selects RX0 yX0_tellNeighbours yX0_tellNeighbours, Cond.code yX0_tellNeighbours cX0_tellNeighbours 5 none, Cond.methodLink RX0 49 yX0_neighbour, Cond.instanceMethod yX0_neighbour, Cond.selects RX0 yX0_neighbour yX0_neighbour]
def wsX0_countHeadsBeside_r2 : List Cond := [Cond.code yX0_neighbour cX0_neighbour 4 (some .int)]
def wsX0_countHeadsBeside : List Cond := .code yX0_countHeadsBeside cX0_countHeadsBeside 3 none :: ((wsX0_countHeadsBeside_r1 ++ wsX0_countHeadsBeside_r2) ++ wsX00)
def wsX0_step_r1 : List Cond := [Cond.fieldLink RX0 18 "SparkBoards$Board" "kinds" "[I", Cond.fieldLink RX0 22 "SparkBoards$Board" "headsBeside" "[I", Cond.methodLink RX0 59 yX0_countHeadsBeside, Cond.instanceMethod yX0_countHeadsBeside, Cond.selects RX0 yX0_countHeadsBeside yX0_countHeadsBeside, Cond.initialized RX0, Cond.code yX0_countHeadsBeside cX0_countHeadsBeside 3 none, Cond.fieldLink RX0 15 "SparkBoards$Board" "rows" "I", Cond.fieldLink RX0 9 "SparkBoards$Board" "columns" "I", Cond.methodLink RX0 25 yJ7_fill_53178, Cond.static yJ7_fill_53178, Cond.initialized RJ7, Cond.code yJ7_fill_53178 cJ7_fill_53178 4 none, Cond.methodLink RX0 37 yX0_cell, Cond.instanceMethod yX0_cell, Cond.selects RX0 yX0_cell yX0_cell, Cond.code yX0_cell cX0_cell 3 (some .int), Cond.methodLink RX0 45 yX0_kind, Cond.instanceMethod yX0_kind, Cond.selects RX0 yX0_kind yX0_kind, Cond.code yX0_kind cX0_kind 2 (some .int), Cond.methodLink RX0 65 yX0_tellNeighbours, Cond.instanceMethod yX0_tellNeighbours, Cond.selects RX0 yX0_tellNeighbours yX0_tellNeighbours]
def wsX0_step_r2 : List Cond := [Cond.code yX0_tellNeighbours cX0_tellNeighbours 5 none, Cond.methodLink RX0 49 yX0_neighbour, Cond.instanceMethod yX0_neighbour, Cond.selects RX0 yX0_neighbour yX0_neighbour, Cond.code yX0_neighbour cX0_neighbour 4 (some .int), Cond.methodLink RX0 41 yX0_size, Cond.instanceMethod yX0_size, Cond.selects RX0 yX0_size yX0_size, Cond.code yX0_size cX0_size 1 (some .int), Cond.methodLink RX0 62 yX0_next, Cond.static yX0_next, Cond.code yX0_next cX0_next 2 (some .int)]
def wsX0_step : List Cond := .code yX0_step cX0_step 2 none :: ((wsX0_step_r1 ++ wsX0_step_r2) ++ wsX00)
def wsX1_init : List Cond := .code yX1_init cX1_init 1 none :: ([.methodLink RX1 3 objectInit, .instanceMethod objectInit, .code objectInit ⟨#[0xb1]⟩ 1 none, .fieldLink RX1 9 "SparkBoards$Lamps" "many" "I", .arrayClass .int, .fieldLink RX1 15 "SparkBoards$Lamps" "columns" "[I", .fieldLink RX1 19 "SparkBoards$Lamps" "rows" "[I", .fieldLink RX1 22 "SparkBoards$Lamps" "lit" "[I", .fieldLink RX1 25 "SparkBoards$Lamps" "latest" "[I"] ++ wsX10)
def wsX1_clear : List Cond := .code yX1_clear cX1_clear 1 none :: ([.fieldLink RX1 9 "SparkBoards$Lamps" "many" "I"] ++ wsX10)
def wsX1_many : List Cond := .code yX1_many cX1_many 1 (some .int) :: ([.fieldLink RX1 9 "SparkBoards$Lamps" "many" "I"] ++ wsX10)
def wsX1_add : List Cond := .code yX1_add cX1_add 3 (some .int) :: ([.fieldLink RX1 9 "SparkBoards$Lamps" "many" "I", .fieldLink RX1 15 "SparkBoards$Lamps" "columns" "[I", .fieldLink RX1 19 "SparkBoards$Lamps" "rows" "[I", .fieldLink RX1 22 "SparkBoards$Lamps" "lit" "[I", .fieldLink RX1 25 "SparkBoards$Lamps" "latest" "[I"] ++ wsX10)
def wsX1_isLamp : List Cond := .code yX1_isLamp cX1_isLamp 2 (some .boolean) :: ([.fieldLink RX1 9 "SparkBoards$Lamps" "many" "I"] ++ wsX10)
def wsX1_column : List Cond := .code yX1_column cX1_column 2 (some .int) :: ([.fieldLink RX1 15 "SparkBoards$Lamps" "columns" "[I", .methodLink RX1 28 yX1_isLamp, .instanceMethod yX1_isLamp, .selects RX1 yX1_isLamp yX1_isLamp, .initialized RX1, .code yX1_isLamp cX1_isLamp 2 (some .boolean), .fieldLink RX1 9 "SparkBoards$Lamps" "many" "I"] ++ wsX10)
def wsX1_row : List Cond := .code yX1_row cX1_row 2 (some .int) :: ([.fieldLink RX1 19 "SparkBoards$Lamps" "rows" "[I", .methodLink RX1 28 yX1_isLamp, .instanceMethod yX1_isLamp, .selects RX1 yX1_isLamp yX1_isLamp, .initialized RX1, .code yX1_isLamp cX1_isLamp 2 (some .boolean), .fieldLink RX1 9 "SparkBoards$Lamps" "many" "I"] ++ wsX10)
def wsX1_lit : List Cond := .code yX1_lit cX1_lit 2 (some .int) :: ([.fieldLink RX1 22 "SparkBoards$Lamps" "lit" "[I", .methodLink RX1 28 yX1_isLamp, .instanceMethod yX1_isLamp, .selects RX1 yX1_isLamp yX1_isLamp, .initialized RX1, .code yX1_isLamp cX1_isLamp 2 (some .boolean), .fieldLink RX1 9 "SparkBoards$Lamps" "many" "I"] ++ wsX10)
def wsX1_latest : List Cond := .code yX1_latest cX1_latest 2 (some .int) :: ([.fieldLink RX1 25 "SparkBoards$Lamps" "latest" "[I", .methodLink RX1 28 yX1_isLamp, .instanceMethod yX1_isLamp, .selects RX1 yX1_isLamp yX1_isLamp, .initialized RX1, .code yX1_isLamp cX1_isLamp 2 (some .boolean), .fieldLink RX1 9 "SparkBoards$Lamps" "many" "I"] ++ wsX10)
def wsX1_litInAll : List Cond := .code yX1_litInAll cX1_litInAll 3 (some .int) :: ([.fieldLink RX1 9 "SparkBoards$Lamps" "many" "I", .fieldLink RX1 22 "SparkBoards$Lamps" "lit" "[I"] ++ wsX10)
def wsX1_isAlight : List Cond := .code yX1_isAlight cX1_isAlight 3 (some .boolean) :: ([.fieldLink RX1 15 "SparkBoards$Lamps" "columns" "[I", .fieldLink RX1 19 "SparkBoards$Lamps" "rows" "[I", .methodLink RX1 36 yX0_cell, .instanceMethod yX0_cell, .selects RX0 yX0_cell yX0_cell, .initialized RX0, .code yX0_cell cX0_cell 3 (some .int), .fieldLink RX0 9 "SparkBoards$Board" "columns" "I", .fieldLink RX0 15 "SparkBoards$Board" "rows" "I", .methodLink RX1 42 yX0_kind, .instanceMethod yX0_kind, .selects RX0 yX0_kind yX0_kind, .code yX0_kind cX0_kind 2 (some .int), .fieldLink RX0 18 "SparkBoards$Board" "kinds" "[I"] ++ wsX10 ++ wsX00)
def wsX1_alight : List Cond := .code yX1_alight cX1_alight 4 (some .int) :: ([.fieldLink RX1 9 "SparkBoards$Lamps" "many" "I", .methodLink RX1 32 yX1_isAlight, .instanceMethod yX1_isAlight, .selects RX1 yX1_isAlight yX1_isAlight, .initialized RX1, .code yX1_isAlight cX1_isAlight 3 (some .boolean), .fieldLink RX1 15 "SparkBoards$Lamps" "columns" "[I", .fieldLink RX1 19 "SparkBoards$Lamps" "rows" "[I", .methodLink RX1 36 yX0_cell, .instanceMethod yX0_cell, .selects RX0 yX0_cell yX0_cell, .initialized RX0, .code yX0_cell cX0_cell 3 (some .int), .fieldLink RX0 9 "SparkBoards$Board" "columns" "I", .fieldLink RX0 15 "SparkBoards$Board" "rows" "I", .methodLink RX1 42 yX0_kind, .instanceMethod yX0_kind, .selects RX0 yX0_kind yX0_kind, .code yX0_kind cX0_kind 2 (some .int), .fieldLink RX0 18 "SparkBoards$Board" "kinds" "[I"] ++ wsX10 ++ wsX00)
def wsX1_light : List Cond := .code yX1_light cX1_light 4 none :: ([.fieldLink RX1 9 "SparkBoards$Lamps" "many" "I", .fieldLink RX1 22 "SparkBoards$Lamps" "lit" "[I", .fieldLink RX1 25 "SparkBoards$Lamps" "latest" "[I", .methodLink RX1 32 yX1_isAlight, .instanceMethod yX1_isAlight, .selects RX1 yX1_isAlight yX1_isAlight, .initialized RX1, .code yX1_isAlight cX1_isAlight 3 (some .boolean), .fieldLink RX1 15 "SparkBoards$Lamps" "columns" "[I", .fieldLink RX1 19 "SparkBoards$Lamps" "rows" "[I", .methodLink RX1 36 yX0_cell, .instanceMethod yX0_cell, .selects RX0 yX0_cell yX0_cell, .initialized RX0, .code yX0_cell cX0_cell 3 (some .int), .fieldLink RX0 9 "SparkBoards$Board" "columns" "I", .fieldLink RX0 15 "SparkBoards$Board" "rows" "I", .methodLink RX1 42 yX0_kind, .instanceMethod yX0_kind, .selects RX0 yX0_kind yX0_kind, .code yX0_kind cX0_kind 2 (some .int), .fieldLink RX0 18 "SparkBoards$Board" "kinds" "[I"] ++ wsX10 ++ wsX00)
def wsX2_init : List Cond := .code yX2_init cX2_init 1 none :: ([.methodLink RX2 5 objectInit, .instanceMethod objectInit, .code objectInit ⟨#[0xb1]⟩ 1 none, .arrayClass .long, .fieldLink RX2 11 "SparkBoards$Past" "words" "[J"] ++ wsX20)
def wsX2_packed : List Cond := .code yX2_packed cX2_packed 5 (some .long) :: ([.methodLink RX2 23 yX0_kind, .instanceMethod yX0_kind, .selects RX0 yX0_kind yX0_kind, .initialized RX0, .code yX0_kind cX0_kind 2 (some .int), .fieldLink RX0 18 "SparkBoards$Board" "kinds" "[I"] ++ wsX00)
def wsX2_keep : List Cond := .code yX2_keep cX2_keep 4 none :: ([.fieldLink RX2 11 "SparkBoards$Past" "words" "[J", .methodLink RX2 15 yX2_packed, .static yX2_packed, .initialized RX2, .code yX2_packed cX2_packed 5 (some .long), .methodLink RX2 23 yX0_kind, .instanceMethod yX0_kind, .selects RX0 yX0_kind yX0_kind, .initialized RX0, .code yX0_kind cX0_kind 2 (some .int), .fieldLink RX0 18 "SparkBoards$Board" "kinds" "[I"] ++ wsX20 ++ wsX00)
def wsX2_isSame : List Cond := .code yX2_isSame cX2_isSame 4 (some .boolean) :: ([.fieldLink RX2 11 "SparkBoards$Past" "words" "[J"] ++ wsX20)
def wsX2_firstLike : List Cond := .code yX2_firstLike cX2_firstLike 3 (some .int) :: ([.methodLink RX2 19 yX2_isSame, .instanceMethod yX2_isSame, .selects RX2 yX2_isSame yX2_isSame, .initialized RX2, .code yX2_isSame cX2_isSame 4 (some .boolean), .fieldLink RX2 11 "SparkBoards$Past" "words" "[J"] ++ wsX20)
def wsX3_init : List Cond := .code yX3_init cX3_init 1 none :: ([.methodLink RX3 3 objectInit, .instanceMethod objectInit, .code objectInit ⟨#[0xb1]⟩ 1 none, .arrayClass .int, .fieldLink RX3 9 "SparkBoards$Wires" "far" "[I", .fieldLink RX3 15 "SparkBoards$Wires" "reachedX" "[I", .fieldLink RX3 18 "SparkBoards$Wires" "reachedY" "[I"] ++ wsX30)
def wsX3_forget : List Cond := .code yX3_forget cX3_forget 1 none :: ([.fieldLink RX3 9 "SparkBoards$Wires" "far" "[I", .methodLink RX3 43 yJ7_fill_53178, .static yJ7_fill_53178, .initialized RJ7, .code yJ7_fill_53178 cJ7_fill_53178 4 none] ++ wsX30)
def wsX3_visit : List Cond := .code yX3_visit cX3_visit 7 (some .int) :: ([.fieldLink RX3 9 "SparkBoards$Wires" "far" "[I", .fieldLink RX3 15 "SparkBoards$Wires" "reachedX" "[I", .fieldLink RX3 18 "SparkBoards$Wires" "reachedY" "[I", .methodLink RX3 53 yX0_cell, .instanceMethod yX0_cell, .selects RX0 yX0_cell yX0_cell, .initialized RX0, .code yX0_cell cX0_cell 3 (some .int), .fieldLink RX0 9 "SparkBoards$Board" "columns" "I", .fieldLink RX0 15 "SparkBoards$Board" "rows" "I", .methodLink RX3 62 yX0_kind, .instanceMethod yX0_kind, .selects RX0 yX0_kind yX0_kind, .code yX0_kind cX0_kind 2 (some .int), .fieldLink RX0 18 "SparkBoards$Board" "kinds" "[I"] ++ wsX30 ++ wsX00)
def wsX3_reach : List Cond := .code yX3_reach cX3_reach 8 (some .int) :: ([.fieldLink RX3 9 "SparkBoards$Wires" "far" "[I", .fieldLink RX3 15 "SparkBoards$Wires" "reachedX" "[I", .fieldLink RX3 18 "SparkBoards$Wires" "reachedY" "[I", .methodLink RX3 49 yX3_visit, .instanceMethod yX3_visit, .selects RX3 yX3_visit yX3_visit, .initialized RX3, .code yX3_visit cX3_visit 7 (some .int), .methodLink RX3 53 yX0_cell, .instanceMethod yX0_cell, .selects RX0 yX0_cell yX0_cell, .initialized RX0, .code yX0_cell cX0_cell 3 (some .int), .fieldLink RX0 9 "SparkBoards$Board" "columns" "I", .fieldLink RX0 15 "SparkBoards$Board" "rows" "I", .methodLink RX3 62 yX0_kind, .instanceMethod yX0_kind, .selects RX0 yX0_kind yX0_kind, .code yX0_kind cX0_kind 2 (some .int), .fieldLink RX0 18 "SparkBoards$Board" "kinds" "[I"] ++ wsX30 ++ wsX00)
def wsX3_sizeOfPiece_r1 : List Cond := [Cond.methodLink RX3 21 yX3_forget, Cond.instanceMethod yX3_forget, Cond.selects RX3 yX3_forget yX3_forget, Cond.initialized RX3, Cond.code yX3_forget cX3_forget 1 none, Cond.fieldLink RX3 9 "SparkBoards$Wires" "far" "[I", Cond.methodLink RX3 43 yJ7_fill_53178, Cond.static yJ7_fill_53178, Cond.initialized RJ7, Cond.code yJ7_fill_53178 cJ7_fill_53178 4 none, Cond.methodLink RX3 24 yX3_reach, Cond.instanceMethod yX3_reach, Cond.selects RX3 yX3_reach yX3_reach, Cond.code yX3_reach cX3_reach 8 (some .int), Cond.fieldLink RX3 15 "SparkBoards$Wires" "reachedX" "[I", Cond.fieldLink RX3 18 "SparkBoards$Wires" "reachedY" "[I", Cond.methodLink RX3 49 yX3_visit, Cond.instanceMethod yX3_visit, Cond.selects RX3 yX3_visit yX3_visit, Cond.code yX3_visit cX3_visit 7 (some .int), Cond.methodLink RX3 53 yX0_cell, Cond.instanceMethod yX0_cell, Cond.selects RX0 yX0_cell yX0_cell, Cond.initialized RX0]
def wsX3_sizeOfPiece_r2 : List Cond := [Cond.code yX0_cell cX0_cell 3 (some .int), Cond.fieldLink RX0 9 "SparkBoards$Board" "columns" "I", Cond.fieldLink RX0 15 "SparkBoards$Board" "rows" "I", Cond.methodLink RX3 62 yX0_kind, Cond.instanceMethod yX0_kind, Cond.selects RX0 yX0_kind yX0_kind, Cond.code yX0_kind cX0_kind 2 (some .int), Cond.fieldLink RX0 18 "SparkBoards$Board" "kinds" "[I"]
def wsX3_sizeOfPiece : List Cond := .code yX3_sizeOfPiece cX3_sizeOfPiece 4 (some .int) :: ((wsX3_sizeOfPiece_r1 ++ wsX3_sizeOfPiece_r2) ++ wsX30 ++ wsX00)
def wsX3_pieces_r1 : List Cond := [Cond.methodLink RX3 21 yX3_forget, Cond.instanceMethod yX3_forget, Cond.selects RX3 yX3_forget yX3_forget, Cond.initialized RX3, Cond.code yX3_forget cX3_forget 1 none, Cond.fieldLink RX3 9 "SparkBoards$Wires" "far" "[I", Cond.methodLink RX3 43 yJ7_fill_53178, Cond.static yJ7_fill_53178, Cond.initialized RJ7, Cond.code yJ7_fill_53178 cJ7_fill_53178 4 none, Cond.methodLink RX3 28 yX0_rows, Cond.instanceMethod yX0_rows, Cond.selects RX0 yX0_rows yX0_rows, Cond.initialized RX0, Cond.code yX0_rows cX0_rows 1 (some .int), Cond.fieldLink RX0 15 "SparkBoards$Board" "rows" "I", Cond.methodLink RX3 34 yX0_columns, Cond.instanceMethod yX0_columns, Cond.selects RX0 yX0_columns yX0_columns, Cond.code yX0_columns cX0_columns 1 (some .int), Cond.fieldLink RX0 9 "SparkBoards$Board" "columns" "I", Cond.methodLink RX3 24 yX3_reach, Cond.instanceMethod yX3_reach, Cond.selects RX3 yX3_reach yX3_reach]
def wsX3_pieces_r2 : List Cond := [Cond.code yX3_reach cX3_reach 8 (some .int), Cond.fieldLink RX3 15 "SparkBoards$Wires" "reachedX" "[I", Cond.fieldLink RX3 18 "SparkBoards$Wires" "reachedY" "[I", Cond.methodLink RX3 49 yX3_visit, Cond.instanceMethod yX3_visit, Cond.selects RX3 yX3_visit yX3_visit, Cond.code yX3_visit cX3_visit 7 (some .int), Cond.methodLink RX3 53 yX0_cell, Cond.instanceMethod yX0_cell, Cond.selects RX0 yX0_cell yX0_cell, Cond.code yX0_cell cX0_cell 3 (some .int), Cond.methodLink RX3 62 yX0_kind, Cond.instanceMethod yX0_kind, Cond.selects RX0 yX0_kind yX0_kind, Cond.code yX0_kind cX0_kind 2 (some .int), Cond.fieldLink RX0 18 "SparkBoards$Board" "kinds" "[I"]
def wsX3_pieces : List Cond := .code yX3_pieces cX3_pieces 5 (some .int) :: ((wsX3_pieces_r1 ++ wsX3_pieces_r2) ++ wsX30 ++ wsX00)
def wsX3_sizeOfLongest_r1 : List Cond := [Cond.methodLink RX3 37 Lib.Math.max.name, Cond.static Lib.Math.max.name, Cond.initialized "java/lang/Math", Cond.code Lib.Math.max.name Lib.Math.max.code 2 (some .int), Cond.methodLink RX3 21 yX3_forget, Cond.instanceMethod yX3_forget, Cond.selects RX3 yX3_forget yX3_forget, Cond.initialized RX3, Cond.code yX3_forget cX3_forget 1 none, Cond.fieldLink RX3 9 "SparkBoards$Wires" "far" "[I", Cond.methodLink RX3 43 yJ7_fill_53178, Cond.static yJ7_fill_53178, Cond.initialized RJ7, Cond.code yJ7_fill_53178 cJ7_fill_53178 4 none, Cond.methodLink RX3 28 yX0_rows, Cond.instanceMethod yX0_rows, Cond.selects RX0 yX0_rows yX0_rows, Cond.initialized RX0, Cond.code yX0_rows cX0_rows 1 (some .int), Cond.fieldLink RX0 15 "SparkBoards$Board" "rows" "I", Cond.methodLink RX3 34 yX0_columns, Cond.instanceMethod yX0_columns, Cond.selects RX0 yX0_columns yX0_columns, Cond.code yX0_columns cX0_columns 1 (some .int)]
def wsX3_sizeOfLongest_r2 : List Cond := [Cond.fieldLink RX0 9 "SparkBoards$Board" "columns" "I", Cond.methodLink RX3 24 yX3_reach, Cond.instanceMethod yX3_reach, Cond.selects RX3 yX3_reach yX3_reach, Cond.code yX3_reach cX3_reach 8 (some .int), Cond.fieldLink RX3 15 "SparkBoards$Wires" "reachedX" "[I", Cond.fieldLink RX3 18 "SparkBoards$Wires" "reachedY" "[I", Cond.methodLink RX3 49 yX3_visit, Cond.instanceMethod yX3_visit, Cond.selects RX3 yX3_visit yX3_visit, Cond.code yX3_visit cX3_visit 7 (some .int), Cond.methodLink RX3 53 yX0_cell, Cond.instanceMethod yX0_cell, Cond.selects RX0 yX0_cell yX0_cell, Cond.code yX0_cell cX0_cell 3 (some .int), Cond.methodLink RX3 62 yX0_kind, Cond.instanceMethod yX0_kind, Cond.selects RX0 yX0_kind yX0_kind, Cond.code yX0_kind cX0_kind 2 (some .int), Cond.fieldLink RX0 18 "SparkBoards$Board" "kinds" "[I"]
def wsX3_sizeOfLongest : List Cond := .code yX3_sizeOfLongest cX3_sizeOfLongest 5 (some .int) :: ((wsX3_sizeOfLongest_r1 ++ wsX3_sizeOfLongest_r2) ++ wsX30 ++ wsX00)
def wsX3_far_r1 : List Cond := [Cond.fieldLink RX3 9 "SparkBoards$Wires" "far" "[I", Cond.methodLink RX3 21 yX3_forget, Cond.instanceMethod yX3_forget, Cond.selects RX3 yX3_forget yX3_forget, Cond.initialized RX3, Cond.code yX3_forget cX3_forget 1 none, Cond.methodLink RX3 43 yJ7_fill_53178, Cond.static yJ7_fill_53178, Cond.initialized RJ7, Cond.code yJ7_fill_53178 cJ7_fill_53178 4 none, Cond.methodLink RX3 24 yX3_reach, Cond.instanceMethod yX3_reach, Cond.selects RX3 yX3_reach yX3_reach, Cond.code yX3_reach cX3_reach 8 (some .int), Cond.fieldLink RX3 15 "SparkBoards$Wires" "reachedX" "[I", Cond.fieldLink RX3 18 "SparkBoards$Wires" "reachedY" "[I", Cond.methodLink RX3 49 yX3_visit, Cond.instanceMethod yX3_visit, Cond.selects RX3 yX3_visit yX3_visit, Cond.code yX3_visit cX3_visit 7 (some .int), Cond.methodLink RX3 53 yX0_cell, Cond.instanceMethod yX0_cell, Cond.selects RX0 yX0_cell yX0_cell, Cond.initialized RX0]
def wsX3_far_r2 : List Cond := [Cond.code yX0_cell cX0_cell 3 (some .int), Cond.fieldLink RX0 9 "SparkBoards$Board" "columns" "I", Cond.fieldLink RX0 15 "SparkBoards$Board" "rows" "I", Cond.methodLink RX3 62 yX0_kind, Cond.instanceMethod yX0_kind, Cond.selects RX0 yX0_kind yX0_kind, Cond.code yX0_kind cX0_kind 2 (some .int), Cond.fieldLink RX0 18 "SparkBoards$Board" "kinds" "[I"]
def wsX3_far : List Cond := .code yX3_far cX3_far 5 (some .int) :: ((wsX3_far_r1 ++ wsX3_far_r2) ++ wsX30 ++ wsX00)
def wsX4_init_r1 : List Cond := [Cond.methodLink RX4 3 objectInit, Cond.instanceMethod objectInit, Cond.code objectInit ⟨#[0xb1]⟩ 1 none, Cond.classLink RX4 9 RX0, Cond.instantiable RX0 4, Cond.initialized RX0, Cond.fieldLink RX4 14 "SparkBoards" "board" "LSparkBoards$Board;", Cond.fieldLink RX4 18 "SparkBoards" "trial" "LSparkBoards$Board;", Cond.classLink RX4 21 RX3, Cond.instantiable RX3 3, Cond.initialized RX3, Cond.fieldLink RX4 24 "SparkBoards" "wires" "LSparkBoards$Wires;", Cond.classLink RX4 28 RX1, Cond.instantiable RX1 5, Cond.initialized RX1, Cond.fieldLink RX4 31 "SparkBoards" "lamps" "LSparkBoards$Lamps;", Cond.classLink RX4 35 RX2, Cond.instantiable RX2 1, Cond.initialized RX2, Cond.fieldLink RX4 38 "SparkBoards" "past" "LSparkBoards$Past;", Cond.fieldLink RX4 42 "SparkBoards" "stepsGone" "I", Cond.fieldLink RX4 46 "SparkBoards" "headsOfAllSteps" "J", Cond.methodLink RX4 11 yX0_init, Cond.instanceMethod yX0_init]
def wsX4_init_r2 : List Cond := [Cond.code yX0_init cX0_init 3 none, Cond.methodLink RX0 3 objectInit, Cond.fieldLink RX0 9 "SparkBoards$Board" "columns" "I", Cond.fieldLink RX0 15 "SparkBoards$Board" "rows" "I", Cond.arrayClass .int, Cond.fieldLink RX0 18 "SparkBoards$Board" "kinds" "[I", Cond.fieldLink RX0 22 "SparkBoards$Board" "headsBeside" "[I", Cond.methodLink RX4 23 yX3_init, Cond.instanceMethod yX3_init, Cond.code yX3_init cX3_init 1 none, Cond.methodLink RX3 3 objectInit, Cond.fieldLink RX3 9 "SparkBoards$Wires" "far" "[I", Cond.fieldLink RX3 15 "SparkBoards$Wires" "reachedX" "[I", Cond.fieldLink RX3 18 "SparkBoards$Wires" "reachedY" "[I", Cond.methodLink RX4 30 yX1_init, Cond.instanceMethod yX1_init, Cond.code yX1_init cX1_init 1 none, Cond.methodLink RX1 3 objectInit, Cond.fieldLink RX1 9 "SparkBoards$Lamps" "many" "I", Cond.fieldLink RX1 15 "SparkBoards$Lamps" "columns" "[I", Cond.fieldLink RX1 19 "SparkBoards$Lamps" "rows" "[I", Cond.fieldLink RX1 22 "SparkBoards$Lamps" "lit" "[I", Cond.fieldLink RX1 25 "SparkBoards$Lamps" "latest" "[I", Cond.methodLink RX4 37 yX2_init]
def wsX4_init_r3 : List Cond := [Cond.instanceMethod yX2_init, Cond.code yX2_init cX2_init 1 none, Cond.methodLink RX2 5 objectInit, Cond.arrayClass .long, Cond.fieldLink RX2 11 "SparkBoards$Past" "words" "[J"]
def wsX4_init : List Cond := .code yX4_init cX4_init 1 none :: ((wsX4_init_r1 ++ (wsX4_init_r2 ++ wsX4_init_r3)) ++ wsX00 ++ wsX40 ++ wsX30 ++ wsX10 ++ wsX20)
def wsX4_isSide : List Cond := .code yX4_isSide cX4_isSide 1 (some .boolean) :: ([])
def wsX4_setBoard_r1 : List Cond := [Cond.classLink RX4 54 "java/lang/IllegalArgumentException", Cond.initialized "java/lang/IllegalArgumentException", Cond.fieldLink RX4 14 "SparkBoards" "board" "LSparkBoards$Board;", Cond.fieldLink RX4 31 "SparkBoards" "lamps" "LSparkBoards$Lamps;", Cond.methodLink RX4 50 yX4_isSide, Cond.static yX4_isSide, Cond.initialized RX4, Cond.code yX4_isSide cX4_isSide 1 (some .boolean), Cond.methodLink RX4 61 yX0_clear, Cond.instanceMethod yX0_clear, Cond.selects RX0 yX0_clear yX0_clear, Cond.initialized RX0, Cond.code yX0_clear cX0_clear 3 none, Cond.fieldLink RX0 9 "SparkBoards$Board" "columns" "I", Cond.fieldLink RX0 15 "SparkBoards$Board" "rows" "I", Cond.fieldLink RX0 18 "SparkBoards$Board" "kinds" "[I", Cond.methodLink RX0 25 yJ7_fill_53178, Cond.static yJ7_fill_53178, Cond.initialized RJ7, Cond.code yJ7_fill_53178 cJ7_fill_53178 4 none, Cond.methodLink RX4 64 yX1_clear, Cond.instanceMethod yX1_clear, Cond.selects RX1 yX1_clear yX1_clear, Cond.initialized RX1]
def wsX4_setBoard_r2 : List Cond := [Cond.code yX1_clear cX1_clear 1 none, Cond.fieldLink RX1 9 "SparkBoards$Lamps" "many" "I", Cond.methodLink RX4 66 yX0_size, Cond.instanceMethod yX0_size, Cond.selects RX0 yX0_size yX0_size, Cond.code yX0_size cX0_size 1 (some .int)]
def wsX4_setBoard : List Cond := .code yX4_setBoard cX4_setBoard 3 (some .int) :: ((wsX4_setBoard_r1 ++ wsX4_setBoard_r2) ++ wsX40 ++ wsX00 ++ wsX10 ++ (vx_atS RX4 58 "java/lang/IllegalArgumentException" ["java/lang/RuntimeException", "java/lang/Exception"]).filter goodWord)
def wsX4_set : List Cond := .code yX4_set cX4_set 6 (some .int) :: ([.classLink RX4 74 "java/lang/IndexOutOfBoundsException", .initialized "java/lang/IndexOutOfBoundsException", .classLink RX4 54 "java/lang/IllegalArgumentException", .initialized "java/lang/IllegalArgumentException", .fieldLink RX4 14 "SparkBoards" "board" "LSparkBoards$Board;", .methodLink RX4 70 yX0_cell, .instanceMethod yX0_cell, .selects RX0 yX0_cell yX0_cell, .initialized RX0, .code yX0_cell cX0_cell 3 (some .int), .fieldLink RX0 9 "SparkBoards$Board" "columns" "I", .fieldLink RX0 15 "SparkBoards$Board" "rows" "I", .methodLink RX4 81 yX0_kind, .instanceMethod yX0_kind, .selects RX0 yX0_kind yX0_kind, .code yX0_kind cX0_kind 2 (some .int), .fieldLink RX0 18 "SparkBoards$Board" "kinds" "[I", .methodLink RX4 85 yX0_put, .instanceMethod yX0_put, .selects RX0 yX0_put yX0_put, .code yX0_put cX0_put 3 none] ++ wsX40 ++ wsX00 ++ (vx_atS RX4 78 "java/lang/IndexOutOfBoundsException" ["java/lang/RuntimeException", "java/lang/Exception"]).filter goodWord ++ (vx_atS RX4 58 "java/lang/IllegalArgumentException" ["java/lang/RuntimeException", "java/lang/Exception"]).filter goodWord)
def wsJ6_compare_7cf53 : List Cond := .code yJ6_compare_7cf53 cJ6_compare_7cf53 2 (some .int) :: ([])
def wsX4_lay : List Cond := .code yX4_lay cX4_lay 4 (some .int) :: ([.fieldLink RX4 14 "SparkBoards" "board" "LSparkBoards$Board;", .methodLink RX4 70 yX0_cell, .instanceMethod yX0_cell, .selects RX0 yX0_cell yX0_cell, .initialized RX0, .code yX0_cell cX0_cell 3 (some .int), .fieldLink RX0 9 "SparkBoards$Board" "columns" "I", .fieldLink RX0 15 "SparkBoards$Board" "rows" "I", .methodLink RX4 81 yX0_kind, .instanceMethod yX0_kind, .selects RX0 yX0_kind yX0_kind, .code yX0_kind cX0_kind 2 (some .int), .fieldLink RX0 18 "SparkBoards$Board" "kinds" "[I", .methodLink RX4 85 yX0_put, .instanceMethod yX0_put, .selects RX0 yX0_put yX0_put, .code yX0_put cX0_put 3 none] ++ wsX40 ++ wsX00)
def wsX4_line_r1 : List Cond := [Cond.classLink RX4 74 "java/lang/IndexOutOfBoundsException", Cond.initialized "java/lang/IndexOutOfBoundsException", Cond.classLink RX4 54 "java/lang/IllegalArgumentException", Cond.initialized "java/lang/IllegalArgumentException", Cond.fieldLink RX4 14 "SparkBoards" "board" "LSparkBoards$Board;", Cond.methodLink RX4 88 Lib.Math.abs.name, Cond.static Lib.Math.abs.name, Cond.initialized "java/lang/Math", Cond.code Lib.Math.abs.name Lib.Math.abs.code 1 (some .int), Cond.methodLink RX4 100 Lib.Math.max.name, Cond.static Lib.Math.max.name, Cond.code Lib.Math.max.name Lib.Math.max.code 2 (some .int), Cond.methodLink RX4 70 yX0_cell, Cond.instanceMethod yX0_cell, Cond.selects RX0 yX0_cell yX0_cell, Cond.initialized RX0, Cond.code yX0_cell cX0_cell 3 (some .int), Cond.fieldLink RX0 9 "SparkBoards$Board" "columns" "I", Cond.fieldLink RX0 15 "SparkBoards$Board" "rows" "I", Cond.methodLink RX4 95 yJ6_compare_7cf53, Cond.static yJ6_compare_7cf53, Cond.initialized RJ6, Cond.code yJ6_compare_7cf53 cJ6_compare_7cf53 2 (some .int), Cond.methodLink RX4 103 yX4_lay]
def wsX4_line_r2 : List Cond := [Cond.instanceMethod yX4_lay, Cond.selects RX4 yX4_lay yX4_lay, Cond.initialized RX4, Cond.code yX4_lay cX4_lay 4 (some .int), Cond.methodLink RX4 81 yX0_kind, Cond.instanceMethod yX0_kind, Cond.selects RX0 yX0_kind yX0_kind, Cond.code yX0_kind cX0_kind 2 (some .int), Cond.fieldLink RX0 18 "SparkBoards$Board" "kinds" "[I", Cond.methodLink RX4 85 yX0_put, Cond.instanceMethod yX0_put, Cond.selects RX0 yX0_put yX0_put, Cond.code yX0_put cX0_put 3 none]
def wsX4_line : List Cond := .code yX4_line cX4_line 12 (some .int) :: ((wsX4_line_r1 ++ wsX4_line_r2) ++ wsX40 ++ wsX00 ++ (vx_atS RX4 78 "java/lang/IndexOutOfBoundsException" ["java/lang/RuntimeException", "java/lang/Exception"]).filter goodWord ++ (vx_atS RX4 58 "java/lang/IllegalArgumentException" ["java/lang/RuntimeException", "java/lang/Exception"]).filter goodWord)
def wsX4_ring_r1 : List Cond := [Cond.classLink RX4 54 "java/lang/IllegalArgumentException", Cond.initialized "java/lang/IllegalArgumentException", Cond.classLink RX4 74 "java/lang/IndexOutOfBoundsException", Cond.initialized "java/lang/IndexOutOfBoundsException", Cond.fieldLink RX4 14 "SparkBoards" "board" "LSparkBoards$Board;", Cond.methodLink RX4 108 yX0_holds, Cond.instanceMethod yX0_holds, Cond.selects RX0 yX0_holds yX0_holds, Cond.initialized RX0, Cond.code yX0_holds cX0_holds 5 (some .boolean), Cond.fieldLink RX0 9 "SparkBoards$Board" "columns" "I", Cond.fieldLink RX0 15 "SparkBoards$Board" "rows" "I", Cond.methodLink RX0 37 yX0_cell, Cond.instanceMethod yX0_cell, Cond.selects RX0 yX0_cell yX0_cell, Cond.code yX0_cell cX0_cell 3 (some .int), Cond.methodLink RX4 103 yX4_lay, Cond.instanceMethod yX4_lay, Cond.selects RX4 yX4_lay yX4_lay, Cond.initialized RX4, Cond.code yX4_lay cX4_lay 4 (some .int), Cond.methodLink RX4 70 yX0_cell, Cond.methodLink RX4 81 yX0_kind, Cond.instanceMethod yX0_kind]
def wsX4_ring_r2 : List Cond := [Cond.selects RX0 yX0_kind yX0_kind, Cond.code yX0_kind cX0_kind 2 (some .int), Cond.fieldLink RX0 18 "SparkBoards$Board" "kinds" "[I", Cond.methodLink RX4 85 yX0_put, Cond.instanceMethod yX0_put, Cond.selects RX0 yX0_put yX0_put, Cond.code yX0_put cX0_put 3 none]
def wsX4_ring : List Cond := .code yX4_ring cX4_ring 7 (some .int) :: ((wsX4_ring_r1 ++ wsX4_ring_r2) ++ wsX40 ++ wsX00 ++ (vx_atS RX4 58 "java/lang/IllegalArgumentException" ["java/lang/RuntimeException", "java/lang/Exception"]).filter goodWord ++ (vx_atS RX4 78 "java/lang/IndexOutOfBoundsException" ["java/lang/RuntimeException", "java/lang/Exception"]).filter goodWord)
def wsX4_turned : List Cond := .code yX4_turned cX4_turned 6 (some .int) :: ([])
def wsX4_stamp_r1 : List Cond := [Cond.classLink RX4 74 "java/lang/IndexOutOfBoundsException", Cond.initialized "java/lang/IndexOutOfBoundsException", Cond.fieldLink RX4 14 "SparkBoards" "board" "LSparkBoards$Board;", Cond.fieldLink RX4 121 "SparkBoards" "STAMPED" "[I", Cond.methodLink RX4 108 yX0_holds, Cond.instanceMethod yX0_holds, Cond.selects RX0 yX0_holds yX0_holds, Cond.initialized RX0, Cond.code yX0_holds cX0_holds 5 (some .boolean), Cond.fieldLink RX0 9 "SparkBoards$Board" "columns" "I", Cond.fieldLink RX0 15 "SparkBoards$Board" "rows" "I", Cond.methodLink RX0 37 yX0_cell, Cond.instanceMethod yX0_cell, Cond.selects RX0 yX0_cell yX0_cell, Cond.code yX0_cell cX0_cell 3 (some .int), Cond.methodLink RX4 118 yX4_turned, Cond.static yX4_turned, Cond.initialized RX4, Cond.code yX4_turned cX4_turned 6 (some .int), Cond.methodLink RX4 70 yX0_cell, Cond.methodLink RX4 81 yX0_kind, Cond.instanceMethod yX0_kind, Cond.selects RX0 yX0_kind yX0_kind, Cond.code yX0_kind cX0_kind 2 (some .int)]
def wsX4_stamp_r2 : List Cond := [Cond.fieldLink RX0 18 "SparkBoards$Board" "kinds" "[I", Cond.methodLink RX4 85 yX0_put, Cond.instanceMethod yX0_put, Cond.selects RX0 yX0_put yX0_put, Cond.code yX0_put cX0_put 3 none]
def wsX4_stamp : List Cond := .code yX4_stamp cX4_stamp 10 (some .int) :: ((wsX4_stamp_r1 ++ wsX4_stamp_r2) ++ wsX40 ++ wsX00 ++ (vx_atS RX4 78 "java/lang/IndexOutOfBoundsException" ["java/lang/RuntimeException", "java/lang/Exception"]).filter goodWord)
def wsX4_spark_r1 : List Cond := [Cond.classLink RX4 74 "java/lang/IndexOutOfBoundsException", Cond.initialized "java/lang/IndexOutOfBoundsException", Cond.classLink RX4 133 "java/lang/IllegalStateException", Cond.initialized "java/lang/IllegalStateException", Cond.fieldLink RX4 14 "SparkBoards" "board" "LSparkBoards$Board;", Cond.fieldLink RX4 127 "SparkBoards" "RIGHT" "[I", Cond.fieldLink RX4 130 "SparkBoards" "DOWN" "[I", Cond.methodLink RX4 70 yX0_cell, Cond.instanceMethod yX0_cell, Cond.selects RX0 yX0_cell yX0_cell, Cond.initialized RX0, Cond.code yX0_cell cX0_cell 3 (some .int), Cond.fieldLink RX0 9 "SparkBoards$Board" "columns" "I", Cond.fieldLink RX0 15 "SparkBoards$Board" "rows" "I", Cond.methodLink RX4 81 yX0_kind, Cond.instanceMethod yX0_kind, Cond.selects RX0 yX0_kind yX0_kind, Cond.code yX0_kind cX0_kind 2 (some .int), Cond.fieldLink RX0 18 "SparkBoards$Board" "kinds" "[I", Cond.methodLink RX4 85 yX0_put, Cond.instanceMethod yX0_put, Cond.selects RX0 yX0_put yX0_put, Cond.code yX0_put cX0_put 3 none, Cond.methodLink RX4 138 yX0_many]
def wsX4_spark_r2 : List Cond := [Cond.instanceMethod yX0_many, Cond.selects RX0 yX0_many yX0_many, Cond.code yX0_many cX0_many 4 (some .int), Cond.methodLink RX0 41 yX0_size, Cond.instanceMethod yX0_size, Cond.selects RX0 yX0_size yX0_size, Cond.code yX0_size cX0_size 1 (some .int), Cond.methodLink RX0 45 yX0_kind]
def wsX4_spark : List Cond := .code yX4_spark cX4_spark 6 (some .int) :: ((wsX4_spark_r1 ++ wsX4_spark_r2) ++ wsX40 ++ wsX00 ++ (vx_atS RX4 78 "java/lang/IndexOutOfBoundsException" ["java/lang/RuntimeException", "java/lang/Exception"]).filter goodWord ++ (vx_atS RX4 137 "java/lang/IllegalStateException" ["java/lang/RuntimeException", "java/lang/Exception"]).filter goodWord)
def wsX4_lamp_r1 : List Cond := [Cond.classLink RX4 74 "java/lang/IndexOutOfBoundsException", Cond.initialized "java/lang/IndexOutOfBoundsException", Cond.classLink RX4 133 "java/lang/IllegalStateException", Cond.initialized "java/lang/IllegalStateException", Cond.fieldLink RX4 14 "SparkBoards" "board" "LSparkBoards$Board;", Cond.fieldLink RX4 31 "SparkBoards" "lamps" "LSparkBoards$Lamps;", Cond.methodLink RX4 70 yX0_cell, Cond.instanceMethod yX0_cell, Cond.selects RX0 yX0_cell yX0_cell, Cond.initialized RX0, Cond.code yX0_cell cX0_cell 3 (some .int), Cond.fieldLink RX0 9 "SparkBoards$Board" "columns" "I", Cond.fieldLink RX0 15 "SparkBoards$Board" "rows" "I", Cond.methodLink RX4 141 yX1_many, Cond.instanceMethod yX1_many, Cond.selects RX1 yX1_many yX1_many, Cond.initialized RX1, Cond.code yX1_many cX1_many 1 (some .int), Cond.fieldLink RX1 9 "SparkBoards$Lamps" "many" "I", Cond.methodLink RX4 145 yX1_add, Cond.instanceMethod yX1_add, Cond.selects RX1 yX1_add yX1_add, Cond.code yX1_add cX1_add 3 (some .int), Cond.fieldLink RX1 15 "SparkBoards$Lamps" "columns" "[I"]
def wsX4_lamp_r2 : List Cond := [Cond.fieldLink RX1 19 "SparkBoards$Lamps" "rows" "[I", Cond.fieldLink RX1 22 "SparkBoards$Lamps" "lit" "[I", Cond.fieldLink RX1 25 "SparkBoards$Lamps" "latest" "[I"]
def wsX4_lamp : List Cond := .code yX4_lamp cX4_lamp 3 (some .int) :: ((wsX4_lamp_r1 ++ wsX4_lamp_r2) ++ wsX40 ++ wsX00 ++ wsX10 ++ (vx_atS RX4 78 "java/lang/IndexOutOfBoundsException" ["java/lang/RuntimeException", "java/lang/Exception"]).filter goodWord ++ (vx_atS RX4 137 "java/lang/IllegalStateException" ["java/lang/RuntimeException", "java/lang/Exception"]).filter goodWord)
def wsX4_pass_r1 : List Cond := [Cond.classLink RX4 54 "java/lang/IllegalArgumentException", Cond.initialized "java/lang/IllegalArgumentException", Cond.fieldLink RX4 14 "SparkBoards" "board" "LSparkBoards$Board;", Cond.fieldLink RX4 42 "SparkBoards" "stepsGone" "I", Cond.fieldLink RX4 31 "SparkBoards" "lamps" "LSparkBoards$Lamps;", Cond.fieldLink RX4 46 "SparkBoards" "headsOfAllSteps" "J", Cond.methodLink RX4 150 yX0_step, Cond.instanceMethod yX0_step, Cond.selects RX0 yX0_step yX0_step, Cond.initialized RX0, Cond.code yX0_step cX0_step 2 none, Cond.fieldLink RX0 18 "SparkBoards$Board" "kinds" "[I", Cond.fieldLink RX0 22 "SparkBoards$Board" "headsBeside" "[I", Cond.methodLink RX0 59 yX0_countHeadsBeside, Cond.instanceMethod yX0_countHeadsBeside, Cond.selects RX0 yX0_countHeadsBeside yX0_countHeadsBeside, Cond.code yX0_countHeadsBeside cX0_countHeadsBeside 3 none, Cond.fieldLink RX0 15 "SparkBoards$Board" "rows" "I", Cond.fieldLink RX0 9 "SparkBoards$Board" "columns" "I", Cond.methodLink RX0 25 yJ7_fill_53178, Cond.static yJ7_fill_53178, Cond.initialized RJ7, Cond.code yJ7_fill_53178 cJ7_fill_53178 4 none, Cond.methodLink RX0 37 yX0_cell]
def wsX4_pass_r2 : List Cond := [Cond.instanceMethod yX0_cell, Cond.selects RX0 yX0_cell yX0_cell, Cond.code yX0_cell cX0_cell 3 (some .int), Cond.methodLink RX0 45 yX0_kind, Cond.instanceMethod yX0_kind, Cond.selects RX0 yX0_kind yX0_kind, Cond.code yX0_kind cX0_kind 2 (some .int), Cond.methodLink RX0 65 yX0_tellNeighbours, Cond.instanceMethod yX0_tellNeighbours, Cond.selects RX0 yX0_tellNeighbours yX0_tellNeighbours, Cond.code yX0_tellNeighbours cX0_tellNeighbours 5 none, Cond.methodLink RX0 49 yX0_neighbour, Cond.instanceMethod yX0_neighbour, Cond.selects RX0 yX0_neighbour yX0_neighbour, Cond.code yX0_neighbour cX0_neighbour 4 (some .int), Cond.methodLink RX0 41 yX0_size, Cond.instanceMethod yX0_size, Cond.selects RX0 yX0_size yX0_size, Cond.code yX0_size cX0_size 1 (some .int), Cond.methodLink RX0 62 yX0_next, Cond.static yX0_next, Cond.code yX0_next cX0_next 2 (some .int), Cond.methodLink RX4 153 yX1_light, Cond.instanceMethod yX1_light]
def wsX4_pass_r3 : List Cond := [Cond.selects RX1 yX1_light yX1_light, Cond.initialized RX1, Cond.code yX1_light cX1_light 4 none, Cond.fieldLink RX1 9 "SparkBoards$Lamps" "many" "I", Cond.fieldLink RX1 22 "SparkBoards$Lamps" "lit" "[I", Cond.fieldLink RX1 25 "SparkBoards$Lamps" "latest" "[I", Cond.methodLink RX1 32 yX1_isAlight, Cond.instanceMethod yX1_isAlight, Cond.selects RX1 yX1_isAlight yX1_isAlight, Cond.code yX1_isAlight cX1_isAlight 3 (some .boolean), Cond.fieldLink RX1 15 "SparkBoards$Lamps" "columns" "[I", Cond.fieldLink RX1 19 "SparkBoards$Lamps" "rows" "[I", Cond.methodLink RX1 36 yX0_cell, Cond.methodLink RX1 42 yX0_kind, Cond.methodLink RX4 138 yX0_many, Cond.instanceMethod yX0_many, Cond.selects RX0 yX0_many yX0_many, Cond.code yX0_many cX0_many 4 (some .int)]
def wsX4_pass : List Cond := .code yX4_pass cX4_pass 4 (some .int) :: ((wsX4_pass_r1 ++ (wsX4_pass_r2 ++ wsX4_pass_r3)) ++ wsX40 ++ wsX00 ++ wsX10 ++ (vx_atS RX4 58 "java/lang/IllegalArgumentException" ["java/lang/RuntimeException", "java/lang/Exception"]).filter goodWord)
def wsX4_told_r1 : List Cond := [Cond.classLink RX4 74 "java/lang/IndexOutOfBoundsException", Cond.initialized "java/lang/IndexOutOfBoundsException", Cond.fieldLink RX4 14 "SparkBoards" "board" "LSparkBoards$Board;", Cond.fieldLink RX4 24 "SparkBoards" "wires" "LSparkBoards$Wires;", Cond.methodLink RX4 70 yX0_cell, Cond.instanceMethod yX0_cell, Cond.selects RX0 yX0_cell yX0_cell, Cond.initialized RX0, Cond.code yX0_cell cX0_cell 3 (some .int), Cond.fieldLink RX0 9 "SparkBoards$Board" "columns" "I", Cond.fieldLink RX0 15 "SparkBoards$Board" "rows" "I", Cond.methodLink RX4 81 yX0_kind, Cond.instanceMethod yX0_kind, Cond.selects RX0 yX0_kind yX0_kind, Cond.code yX0_kind cX0_kind 2 (some .int), Cond.fieldLink RX0 18 "SparkBoards$Board" "kinds" "[I", Cond.methodLink RX4 159 yX0_headsAround, Cond.instanceMethod yX0_headsAround, Cond.selects RX0 yX0_headsAround yX0_headsAround, Cond.code yX0_headsAround cX0_headsAround 5 (some .int), Cond.methodLink RX0 49 yX0_neighbour, Cond.instanceMethod yX0_neighbour, Cond.selects RX0 yX0_neighbour yX0_neighbour, Cond.code yX0_neighbour cX0_neighbour 4 (some .int)]
def wsX4_told_r2 : List Cond := [Cond.methodLink RX0 37 yX0_cell, Cond.methodLink RX0 45 yX0_kind, Cond.methodLink RX4 162 yX0_next, Cond.static yX0_next, Cond.code yX0_next cX0_next 2 (some .int), Cond.methodLink RX4 165 yX3_sizeOfPiece, Cond.instanceMethod yX3_sizeOfPiece, Cond.selects RX3 yX3_sizeOfPiece yX3_sizeOfPiece, Cond.initialized RX3, Cond.code yX3_sizeOfPiece cX3_sizeOfPiece 4 (some .int), Cond.methodLink RX3 21 yX3_forget, Cond.instanceMethod yX3_forget, Cond.selects RX3 yX3_forget yX3_forget, Cond.code yX3_forget cX3_forget 1 none, Cond.fieldLink RX3 9 "SparkBoards$Wires" "far" "[I", Cond.methodLink RX3 43 yJ7_fill_53178, Cond.static yJ7_fill_53178, Cond.initialized RJ7, Cond.code yJ7_fill_53178 cJ7_fill_53178 4 none, Cond.methodLink RX3 24 yX3_reach, Cond.instanceMethod yX3_reach, Cond.selects RX3 yX3_reach yX3_reach, Cond.code yX3_reach cX3_reach 8 (some .int), Cond.fieldLink RX3 15 "SparkBoards$Wires" "reachedX" "[I"]
def wsX4_told_r3 : List Cond := [Cond.fieldLink RX3 18 "SparkBoards$Wires" "reachedY" "[I", Cond.methodLink RX3 49 yX3_visit, Cond.instanceMethod yX3_visit, Cond.selects RX3 yX3_visit yX3_visit, Cond.code yX3_visit cX3_visit 7 (some .int), Cond.methodLink RX3 53 yX0_cell, Cond.methodLink RX3 62 yX0_kind, Cond.methodLink RX4 169 yX0_wiredAround, Cond.instanceMethod yX0_wiredAround, Cond.selects RX0 yX0_wiredAround yX0_wiredAround, Cond.code yX0_wiredAround cX0_wiredAround 5 (some .int)]
def wsX4_told : List Cond := .code yX4_told cX4_told 5 (some .int) :: ((wsX4_told_r1 ++ (wsX4_told_r2 ++ wsX4_told_r3)) ++ wsX40 ++ wsX00 ++ wsX30 ++ (vx_atS RX4 78 "java/lang/IndexOutOfBoundsException" ["java/lang/RuntimeException", "java/lang/Exception"]).filter goodWord)
def wsX4_about_r1 : List Cond := [Cond.classLink RX4 74 "java/lang/IndexOutOfBoundsException", Cond.initialized "java/lang/IndexOutOfBoundsException", Cond.fieldLink RX4 31 "SparkBoards" "lamps" "LSparkBoards$Lamps;", Cond.methodLink RX4 141 yX1_many, Cond.instanceMethod yX1_many, Cond.selects RX1 yX1_many yX1_many, Cond.initialized RX1, Cond.code yX1_many cX1_many 1 (some .int), Cond.fieldLink RX1 9 "SparkBoards$Lamps" "many" "I", Cond.methodLink RX4 174 yX1_column, Cond.instanceMethod yX1_column, Cond.selects RX1 yX1_column yX1_column, Cond.code yX1_column cX1_column 2 (some .int), Cond.fieldLink RX1 15 "SparkBoards$Lamps" "columns" "[I", Cond.methodLink RX1 28 yX1_isLamp, Cond.instanceMethod yX1_isLamp, Cond.selects RX1 yX1_isLamp yX1_isLamp, Cond.code yX1_isLamp cX1_isLamp 2 (some .boolean), Cond.methodLink RX4 177 yX1_row, Cond.instanceMethod yX1_row, Cond.selects RX1 yX1_row yX1_row, Cond.code yX1_row cX1_row 2 (some .int), Cond.fieldLink RX1 19 "SparkBoards$Lamps" "rows" "[I", Cond.methodLink RX4 180 yX1_lit]
def wsX4_about_r2 : List Cond := [Cond.instanceMethod yX1_lit, Cond.selects RX1 yX1_lit yX1_lit, Cond.code yX1_lit cX1_lit 2 (some .int), Cond.fieldLink RX1 22 "SparkBoards$Lamps" "lit" "[I", Cond.methodLink RX4 183 yX1_latest, Cond.instanceMethod yX1_latest, Cond.selects RX1 yX1_latest yX1_latest, Cond.code yX1_latest cX1_latest 2 (some .int), Cond.fieldLink RX1 25 "SparkBoards$Lamps" "latest" "[I"]
def wsX4_about : List Cond := .code yX4_about cX4_about 3 (some .int) :: ((wsX4_about_r1 ++ wsX4_about_r2) ++ wsX40 ++ wsX10 ++ (vx_atS RX4 78 "java/lang/IndexOutOfBoundsException" ["java/lang/RuntimeException", "java/lang/Exception"]).filter goodWord)
def wsX4_count_r1 : List Cond := [Cond.classLink RX4 74 "java/lang/IndexOutOfBoundsException", Cond.initialized "java/lang/IndexOutOfBoundsException", Cond.fieldLink RX4 42 "SparkBoards" "stepsGone" "I", Cond.fieldLink RX4 14 "SparkBoards" "board" "LSparkBoards$Board;", Cond.fieldLink RX4 24 "SparkBoards" "wires" "LSparkBoards$Wires;", Cond.fieldLink RX4 31 "SparkBoards" "lamps" "LSparkBoards$Lamps;", Cond.methodLink RX4 188 yX0_columns, Cond.instanceMethod yX0_columns, Cond.selects RX0 yX0_columns yX0_columns, Cond.initialized RX0, Cond.code yX0_columns cX0_columns 1 (some .int), Cond.fieldLink RX0 9 "SparkBoards$Board" "columns" "I", Cond.methodLink RX4 191 yX0_rows, Cond.instanceMethod yX0_rows, Cond.selects RX0 yX0_rows yX0_rows, Cond.code yX0_rows cX0_rows 1 (some .int), Cond.fieldLink RX0 15 "SparkBoards$Board" "rows" "I", Cond.methodLink RX4 138 yX0_many, Cond.instanceMethod yX0_many, Cond.selects RX0 yX0_many yX0_many, Cond.code yX0_many cX0_many 4 (some .int), Cond.methodLink RX0 41 yX0_size, Cond.instanceMethod yX0_size, Cond.selects RX0 yX0_size yX0_size]
def wsX4_count_r2 : List Cond := [Cond.code yX0_size cX0_size 1 (some .int), Cond.methodLink RX0 45 yX0_kind, Cond.instanceMethod yX0_kind, Cond.selects RX0 yX0_kind yX0_kind, Cond.code yX0_kind cX0_kind 2 (some .int), Cond.fieldLink RX0 18 "SparkBoards$Board" "kinds" "[I", Cond.methodLink RX4 194 yX3_pieces, Cond.instanceMethod yX3_pieces, Cond.selects RX3 yX3_pieces yX3_pieces, Cond.initialized RX3, Cond.code yX3_pieces cX3_pieces 5 (some .int), Cond.methodLink RX3 21 yX3_forget, Cond.instanceMethod yX3_forget, Cond.selects RX3 yX3_forget yX3_forget, Cond.code yX3_forget cX3_forget 1 none, Cond.fieldLink RX3 9 "SparkBoards$Wires" "far" "[I", Cond.methodLink RX3 43 yJ7_fill_53178, Cond.static yJ7_fill_53178, Cond.initialized RJ7, Cond.code yJ7_fill_53178 cJ7_fill_53178 4 none, Cond.methodLink RX3 28 yX0_rows, Cond.methodLink RX3 34 yX0_columns, Cond.methodLink RX3 24 yX3_reach, Cond.instanceMethod yX3_reach]
def wsX4_count_r3 : List Cond := [Cond.selects RX3 yX3_reach yX3_reach, Cond.code yX3_reach cX3_reach 8 (some .int), Cond.fieldLink RX3 15 "SparkBoards$Wires" "reachedX" "[I", Cond.fieldLink RX3 18 "SparkBoards$Wires" "reachedY" "[I", Cond.methodLink RX3 49 yX3_visit, Cond.instanceMethod yX3_visit, Cond.selects RX3 yX3_visit yX3_visit, Cond.code yX3_visit cX3_visit 7 (some .int), Cond.methodLink RX3 53 yX0_cell, Cond.instanceMethod yX0_cell, Cond.selects RX0 yX0_cell yX0_cell, Cond.code yX0_cell cX0_cell 3 (some .int), Cond.methodLink RX3 62 yX0_kind, Cond.methodLink RX4 198 yX3_sizeOfLongest, Cond.instanceMethod yX3_sizeOfLongest, Cond.selects RX3 yX3_sizeOfLongest yX3_sizeOfLongest, Cond.code yX3_sizeOfLongest cX3_sizeOfLongest 5 (some .int), Cond.methodLink RX3 37 Lib.Math.max.name, Cond.static Lib.Math.max.name, Cond.initialized "java/lang/Math", Cond.code Lib.Math.max.name Lib.Math.max.code 2 (some .int), Cond.methodLink RX4 141 yX1_many, Cond.instanceMethod yX1_many, Cond.selects RX1 yX1_many yX1_many]
def wsX4_count_r4 : List Cond := [Cond.initialized RX1, Cond.code yX1_many cX1_many 1 (some .int), Cond.fieldLink RX1 9 "SparkBoards$Lamps" "many" "I", Cond.methodLink RX4 201 yX1_litInAll, Cond.instanceMethod yX1_litInAll, Cond.selects RX1 yX1_litInAll yX1_litInAll, Cond.code yX1_litInAll cX1_litInAll 3 (some .int), Cond.fieldLink RX1 22 "SparkBoards$Lamps" "lit" "[I"]
def wsX4_count : List Cond := .code yX4_count cX4_count 2 (some .int) :: ((wsX4_count_r1 ++ (wsX4_count_r2 ++ (wsX4_count_r3 ++ wsX4_count_r4))) ++ wsX40 ++ wsX00 ++ wsX30 ++ wsX10 ++ (vx_atS RX4 78 "java/lang/IndexOutOfBoundsException" ["java/lang/RuntimeException", "java/lang/Exception"]).filter goodWord)
def wsX4_way_r1 : List Cond := [Cond.classLink RX4 74 "java/lang/IndexOutOfBoundsException", Cond.initialized "java/lang/IndexOutOfBoundsException", Cond.fieldLink RX4 14 "SparkBoards" "board" "LSparkBoards$Board;", Cond.fieldLink RX4 24 "SparkBoards" "wires" "LSparkBoards$Wires;", Cond.methodLink RX4 70 yX0_cell, Cond.instanceMethod yX0_cell, Cond.selects RX0 yX0_cell yX0_cell, Cond.initialized RX0, Cond.code yX0_cell cX0_cell 3 (some .int), Cond.fieldLink RX0 9 "SparkBoards$Board" "columns" "I", Cond.fieldLink RX0 15 "SparkBoards$Board" "rows" "I", Cond.methodLink RX4 204 yX3_far, Cond.instanceMethod yX3_far, Cond.selects RX3 yX3_far yX3_far, Cond.initialized RX3, Cond.code yX3_far cX3_far 5 (some .int), Cond.fieldLink RX3 9 "SparkBoards$Wires" "far" "[I", Cond.methodLink RX3 21 yX3_forget, Cond.instanceMethod yX3_forget, Cond.selects RX3 yX3_forget yX3_forget, Cond.code yX3_forget cX3_forget 1 none, Cond.methodLink RX3 43 yJ7_fill_53178, Cond.static yJ7_fill_53178, Cond.initialized RJ7]
def wsX4_way_r2 : List Cond := [Cond.code yJ7_fill_53178 cJ7_fill_53178 4 none, Cond.methodLink RX3 24 yX3_reach, Cond.instanceMethod yX3_reach, Cond.selects RX3 yX3_reach yX3_reach, Cond.code yX3_reach cX3_reach 8 (some .int), Cond.fieldLink RX3 15 "SparkBoards$Wires" "reachedX" "[I", Cond.fieldLink RX3 18 "SparkBoards$Wires" "reachedY" "[I", Cond.methodLink RX3 49 yX3_visit, Cond.instanceMethod yX3_visit, Cond.selects RX3 yX3_visit yX3_visit, Cond.code yX3_visit cX3_visit 7 (some .int), Cond.methodLink RX3 53 yX0_cell, Cond.methodLink RX3 62 yX0_kind, Cond.instanceMethod yX0_kind, Cond.selects RX0 yX0_kind yX0_kind, Cond.code yX0_kind cX0_kind 2 (some .int), Cond.fieldLink RX0 18 "SparkBoards$Board" "kinds" "[I"]
def wsX4_way : List Cond := .code yX4_way cX4_way 7 (some .int) :: ((wsX4_way_r1 ++ wsX4_way_r2) ++ wsX40 ++ wsX00 ++ wsX30 ++ (vx_atS RX4 78 "java/lang/IndexOutOfBoundsException" ["java/lang/RuntimeException", "java/lang/Exception"]).filter goodWord)
def wsX4_period_r1 : List Cond := [Cond.classLink RX4 74 "java/lang/IndexOutOfBoundsException", Cond.initialized "java/lang/IndexOutOfBoundsException", Cond.fieldLink RX4 18 "SparkBoards" "trial" "LSparkBoards$Board;", Cond.fieldLink RX4 14 "SparkBoards" "board" "LSparkBoards$Board;", Cond.fieldLink RX4 38 "SparkBoards" "past" "LSparkBoards$Past;", Cond.methodLink RX4 210 yX0_copy, Cond.instanceMethod yX0_copy, Cond.selects RX0 yX0_copy yX0_copy, Cond.initialized RX0, Cond.code yX0_copy cX0_copy 2 none, Cond.fieldLink RX0 9 "SparkBoards$Board" "columns" "I", Cond.fieldLink RX0 15 "SparkBoards$Board" "rows" "I", Cond.fieldLink RX0 18 "SparkBoards$Board" "kinds" "[I", Cond.methodLink RX0 31 arraycopyName, Cond.native arraycopyName, Cond.static arraycopyName, Cond.initialized "java/lang/System", Cond.methodLink RX4 214 yX2_keep, Cond.instanceMethod yX2_keep, Cond.selects RX2 yX2_keep yX2_keep, Cond.initialized RX2, Cond.code yX2_keep cX2_keep 4 none, Cond.fieldLink RX2 11 "SparkBoards$Past" "words" "[J", Cond.methodLink RX2 15 yX2_packed]
def wsX4_period_r2 : List Cond := [Cond.static yX2_packed, Cond.code yX2_packed cX2_packed 5 (some .long), Cond.methodLink RX2 23 yX0_kind, Cond.instanceMethod yX0_kind, Cond.selects RX0 yX0_kind yX0_kind, Cond.code yX0_kind cX0_kind 2 (some .int), Cond.methodLink RX4 150 yX0_step, Cond.instanceMethod yX0_step, Cond.selects RX0 yX0_step yX0_step, Cond.code yX0_step cX0_step 2 none, Cond.fieldLink RX0 22 "SparkBoards$Board" "headsBeside" "[I", Cond.methodLink RX0 59 yX0_countHeadsBeside, Cond.instanceMethod yX0_countHeadsBeside, Cond.selects RX0 yX0_countHeadsBeside yX0_countHeadsBeside, Cond.code yX0_countHeadsBeside cX0_countHeadsBeside 3 none, Cond.methodLink RX0 25 yJ7_fill_53178, Cond.static yJ7_fill_53178, Cond.initialized RJ7, Cond.code yJ7_fill_53178 cJ7_fill_53178 4 none, Cond.methodLink RX0 37 yX0_cell, Cond.instanceMethod yX0_cell, Cond.selects RX0 yX0_cell yX0_cell, Cond.code yX0_cell cX0_cell 3 (some .int), Cond.methodLink RX0 45 yX0_kind]
def wsX4_period_r3 : List Cond := [Cond.methodLink RX0 65 yX0_tellNeighbours, Cond.instanceMethod yX0_tellNeighbours, Cond.selects RX0 yX0_tellNeighbours yX0_tellNeighbours, Cond.code yX0_tellNeighbours cX0_tellNeighbours 5 none, Cond.methodLink RX0 49 yX0_neighbour, Cond.instanceMethod yX0_neighbour, Cond.selects RX0 yX0_neighbour yX0_neighbour, Cond.code yX0_neighbour cX0_neighbour 4 (some .int), Cond.methodLink RX0 41 yX0_size, Cond.instanceMethod yX0_size, Cond.selects RX0 yX0_size yX0_size, Cond.code yX0_size cX0_size 1 (some .int), Cond.methodLink RX0 62 yX0_next, Cond.static yX0_next, Cond.code yX0_next cX0_next 2 (some .int), Cond.methodLink RX4 218 yX2_firstLike, Cond.instanceMethod yX2_firstLike, Cond.selects RX2 yX2_firstLike yX2_firstLike, Cond.code yX2_firstLike cX2_firstLike 3 (some .int), Cond.methodLink RX2 19 yX2_isSame, Cond.instanceMethod yX2_isSame, Cond.selects RX2 yX2_isSame yX2_isSame, Cond.code yX2_isSame cX2_isSame 4 (some .boolean)]
def wsX4_period : List Cond := .code yX4_period cX4_period 4 (some .int) :: ((wsX4_period_r1 ++ (wsX4_period_r2 ++ wsX4_period_r3)) ++ wsX40 ++ wsX00 ++ wsX20 ++ (vx_atS RX4 78 "java/lang/IndexOutOfBoundsException" ["java/lang/RuntimeException", "java/lang/Exception"]).filter goodWord)
def wsX4_until_r1 : List Cond := [Cond.classLink RX4 74 "java/lang/IndexOutOfBoundsException", Cond.initialized "java/lang/IndexOutOfBoundsException", Cond.fieldLink RX4 14 "SparkBoards" "board" "LSparkBoards$Board;", Cond.fieldLink RX4 18 "SparkBoards" "trial" "LSparkBoards$Board;", Cond.methodLink RX4 70 yX0_cell, Cond.instanceMethod yX0_cell, Cond.selects RX0 yX0_cell yX0_cell, Cond.initialized RX0, Cond.code yX0_cell cX0_cell 3 (some .int), Cond.fieldLink RX0 9 "SparkBoards$Board" "columns" "I", Cond.fieldLink RX0 15 "SparkBoards$Board" "rows" "I", Cond.methodLink RX4 210 yX0_copy, Cond.instanceMethod yX0_copy, Cond.selects RX0 yX0_copy yX0_copy, Cond.code yX0_copy cX0_copy 2 none, Cond.fieldLink RX0 18 "SparkBoards$Board" "kinds" "[I", Cond.methodLink RX0 31 arraycopyName, Cond.native arraycopyName, Cond.static arraycopyName, Cond.initialized "java/lang/System", Cond.methodLink RX4 81 yX0_kind, Cond.instanceMethod yX0_kind, Cond.selects RX0 yX0_kind yX0_kind, Cond.code yX0_kind cX0_kind 2 (some .int)]
def wsX4_until_r2 : List Cond := [Cond.methodLink RX4 150 yX0_step, Cond.instanceMethod yX0_step, Cond.selects RX0 yX0_step yX0_step, Cond.code yX0_step cX0_step 2 none, Cond.fieldLink RX0 22 "SparkBoards$Board" "headsBeside" "[I", Cond.methodLink RX0 59 yX0_countHeadsBeside, Cond.instanceMethod yX0_countHeadsBeside, Cond.selects RX0 yX0_countHeadsBeside yX0_countHeadsBeside, Cond.code yX0_countHeadsBeside cX0_countHeadsBeside 3 none, Cond.methodLink RX0 25 yJ7_fill_53178, Cond.static yJ7_fill_53178, Cond.initialized RJ7, Cond.code yJ7_fill_53178 cJ7_fill_53178 4 none, Cond.methodLink RX0 37 yX0_cell, Cond.methodLink RX0 45 yX0_kind, Cond.methodLink RX0 65 yX0_tellNeighbours, Cond.instanceMethod yX0_tellNeighbours, Cond.selects RX0 yX0_tellNeighbours yX0_tellNeighbours, Cond.code yX0_tellNeighbours cX0_tellNeighbours 5 none, Cond.methodLink RX0 49 yX0_neighbour, Cond.instanceMethod yX0_neighbour, Cond.selects RX0 yX0_neighbour yX0_neighbour, Cond.code yX0_neighbour cX0_neighbour 4 (some .int), Cond.methodLink RX0 41 yX0_size]
def wsX4_until_r3 : List Cond := [Cond.instanceMethod yX0_size, Cond.selects RX0 yX0_size yX0_size, Cond.code yX0_size cX0_size 1 (some .int), Cond.methodLink RX0 62 yX0_next, Cond.static yX0_next, Cond.code yX0_next cX0_next 2 (some .int)]
def wsX4_until : List Cond := .code yX4_until cX4_until 5 (some .int) :: ((wsX4_until_r1 ++ (wsX4_until_r2 ++ wsX4_until_r3)) ++ wsX40 ++ wsX00 ++ (vx_atS RX4 78 "java/lang/IndexOutOfBoundsException" ["java/lang/RuntimeException", "java/lang/Exception"]).filter goodWord)
def wsX4_foresee_r1 : List Cond := [Cond.classLink RX4 54 "java/lang/IllegalArgumentException", Cond.initialized "java/lang/IllegalArgumentException", Cond.classLink RX4 74 "java/lang/IndexOutOfBoundsException", Cond.initialized "java/lang/IndexOutOfBoundsException", Cond.fieldLink RX4 31 "SparkBoards" "lamps" "LSparkBoards$Lamps;", Cond.fieldLink RX4 18 "SparkBoards" "trial" "LSparkBoards$Board;", Cond.fieldLink RX4 14 "SparkBoards" "board" "LSparkBoards$Board;", Cond.methodLink RX4 201 yX1_litInAll, Cond.instanceMethod yX1_litInAll, Cond.selects RX1 yX1_litInAll yX1_litInAll, Cond.initialized RX1, Cond.code yX1_litInAll cX1_litInAll 3 (some .int), Cond.fieldLink RX1 9 "SparkBoards$Lamps" "many" "I", Cond.fieldLink RX1 22 "SparkBoards$Lamps" "lit" "[I", Cond.methodLink RX4 210 yX0_copy, Cond.instanceMethod yX0_copy, Cond.selects RX0 yX0_copy yX0_copy, Cond.initialized RX0, Cond.code yX0_copy cX0_copy 2 none, Cond.fieldLink RX0 9 "SparkBoards$Board" "columns" "I", Cond.fieldLink RX0 15 "SparkBoards$Board" "rows" "I", Cond.fieldLink RX0 18 "SparkBoards$Board" "kinds" "[I", Cond.methodLink RX0 31 arraycopyName, Cond.native arraycopyName]
def wsX4_foresee_r2 : List Cond := [Cond.static arraycopyName, Cond.initialized "java/lang/System", Cond.methodLink RX4 150 yX0_step, Cond.instanceMethod yX0_step, Cond.selects RX0 yX0_step yX0_step, Cond.code yX0_step cX0_step 2 none, Cond.fieldLink RX0 22 "SparkBoards$Board" "headsBeside" "[I", Cond.methodLink RX0 59 yX0_countHeadsBeside, Cond.instanceMethod yX0_countHeadsBeside, Cond.selects RX0 yX0_countHeadsBeside yX0_countHeadsBeside, Cond.code yX0_countHeadsBeside cX0_countHeadsBeside 3 none, Cond.methodLink RX0 25 yJ7_fill_53178, Cond.static yJ7_fill_53178, Cond.initialized RJ7, Cond.code yJ7_fill_53178 cJ7_fill_53178 4 none, Cond.methodLink RX0 37 yX0_cell, Cond.instanceMethod yX0_cell, Cond.selects RX0 yX0_cell yX0_cell, Cond.code yX0_cell cX0_cell 3 (some .int), Cond.methodLink RX0 45 yX0_kind, Cond.instanceMethod yX0_kind, Cond.selects RX0 yX0_kind yX0_kind, Cond.code yX0_kind cX0_kind 2 (some .int), Cond.methodLink RX0 65 yX0_tellNeighbours]
def wsX4_foresee_r3 : List Cond := [Cond.instanceMethod yX0_tellNeighbours, Cond.selects RX0 yX0_tellNeighbours yX0_tellNeighbours, Cond.code yX0_tellNeighbours cX0_tellNeighbours 5 none, Cond.methodLink RX0 49 yX0_neighbour, Cond.instanceMethod yX0_neighbour, Cond.selects RX0 yX0_neighbour yX0_neighbour, Cond.code yX0_neighbour cX0_neighbour 4 (some .int), Cond.methodLink RX0 41 yX0_size, Cond.instanceMethod yX0_size, Cond.selects RX0 yX0_size yX0_size, Cond.code yX0_size cX0_size 1 (some .int), Cond.methodLink RX0 62 yX0_next, Cond.static yX0_next, Cond.code yX0_next cX0_next 2 (some .int), Cond.methodLink RX4 225 yX1_alight, Cond.instanceMethod yX1_alight, Cond.selects RX1 yX1_alight yX1_alight, Cond.code yX1_alight cX1_alight 4 (some .int), Cond.methodLink RX1 32 yX1_isAlight, Cond.instanceMethod yX1_isAlight, Cond.selects RX1 yX1_isAlight yX1_isAlight, Cond.code yX1_isAlight cX1_isAlight 3 (some .boolean), Cond.fieldLink RX1 15 "SparkBoards$Lamps" "columns" "[I", Cond.fieldLink RX1 19 "SparkBoards$Lamps" "rows" "[I"]
def wsX4_foresee_r4 : List Cond := [Cond.methodLink RX1 36 yX0_cell, Cond.methodLink RX1 42 yX0_kind, Cond.methodLink RX4 138 yX0_many, Cond.instanceMethod yX0_many, Cond.selects RX0 yX0_many yX0_many, Cond.code yX0_many cX0_many 4 (some .int)]
def wsX4_foresee : List Cond := .code yX4_foresee cX4_foresee 6 (some .int) :: ((wsX4_foresee_r1 ++ (wsX4_foresee_r2 ++ (wsX4_foresee_r3 ++ wsX4_foresee_r4))) ++ wsX40 ++ wsX10 ++ wsX00 ++ (vx_atS RX4 58 "java/lang/IllegalArgumentException" ["java/lang/RuntimeException", "java/lang/Exception"]).filter goodWord ++ (vx_atS RX4 78 "java/lang/IndexOutOfBoundsException" ["java/lang/RuntimeException", "java/lang/Exception"]).filter goodWord)
def wsX4_headsOfTrial_r1 : List Cond := [Cond.fieldLink RX4 18 "SparkBoards" "trial" "LSparkBoards$Board;", Cond.methodLink RX4 150 yX0_step, Cond.instanceMethod yX0_step, Cond.selects RX0 yX0_step yX0_step, Cond.initialized RX0, Cond.code yX0_step cX0_step 2 none, Cond.fieldLink RX0 18 "SparkBoards$Board" "kinds" "[I", Cond.fieldLink RX0 22 "SparkBoards$Board" "headsBeside" "[I", Cond.methodLink RX0 59 yX0_countHeadsBeside, Cond.instanceMethod yX0_countHeadsBeside, Cond.selects RX0 yX0_countHeadsBeside yX0_countHeadsBeside, Cond.code yX0_countHeadsBeside cX0_countHeadsBeside 3 none, Cond.fieldLink RX0 15 "SparkBoards$Board" "rows" "I", Cond.fieldLink RX0 9 "SparkBoards$Board" "columns" "I", Cond.methodLink RX0 25 yJ7_fill_53178, Cond.static yJ7_fill_53178, Cond.initialized RJ7, Cond.code yJ7_fill_53178 cJ7_fill_53178 4 none, Cond.methodLink RX0 37 yX0_cell, Cond.instanceMethod yX0_cell, Cond.selects RX0 yX0_cell yX0_cell, Cond.code yX0_cell cX0_cell 3 (some .int), Cond.methodLink RX0 45 yX0_kind, Cond.instanceMethod yX0_kind]
def wsX4_headsOfTrial_r2 : List Cond := [Cond.selects RX0 yX0_kind yX0_kind, Cond.code yX0_kind cX0_kind 2 (some .int), Cond.methodLink RX0 65 yX0_tellNeighbours, Cond.instanceMethod yX0_tellNeighbours, Cond.selects RX0 yX0_tellNeighbours yX0_tellNeighbours, Cond.code yX0_tellNeighbours cX0_tellNeighbours 5 none, Cond.methodLink RX0 49 yX0_neighbour, Cond.instanceMethod yX0_neighbour, Cond.selects RX0 yX0_neighbour yX0_neighbour, Cond.code yX0_neighbour cX0_neighbour 4 (some .int), Cond.methodLink RX0 41 yX0_size, Cond.instanceMethod yX0_size, Cond.selects RX0 yX0_size yX0_size, Cond.code yX0_size cX0_size 1 (some .int), Cond.methodLink RX0 62 yX0_next, Cond.static yX0_next, Cond.code yX0_next cX0_next 2 (some .int), Cond.methodLink RX4 138 yX0_many, Cond.instanceMethod yX0_many, Cond.selects RX0 yX0_many yX0_many, Cond.code yX0_many cX0_many 4 (some .int)]
def wsX4_headsOfTrial : List Cond := .code yX4_headsOfTrial cX4_headsOfTrial 3 (some .int) :: ((wsX4_headsOfTrial_r1 ++ wsX4_headsOfTrial_r2) ++ wsX40 ++ wsX00)
def wsX4_advise_r1 : List Cond := [Cond.classLink RX4 54 "java/lang/IllegalArgumentException", Cond.initialized "java/lang/IllegalArgumentException", Cond.fieldLink RX4 18 "SparkBoards" "trial" "LSparkBoards$Board;", Cond.fieldLink RX4 14 "SparkBoards" "board" "LSparkBoards$Board;", Cond.methodLink RX4 210 yX0_copy, Cond.instanceMethod yX0_copy, Cond.selects RX0 yX0_copy yX0_copy, Cond.initialized RX0, Cond.code yX0_copy cX0_copy 2 none, Cond.fieldLink RX0 9 "SparkBoards$Board" "columns" "I", Cond.fieldLink RX0 15 "SparkBoards$Board" "rows" "I", Cond.fieldLink RX0 18 "SparkBoards$Board" "kinds" "[I", Cond.methodLink RX0 31 arraycopyName, Cond.native arraycopyName, Cond.static arraycopyName, Cond.initialized "java/lang/System", Cond.methodLink RX4 230 yX4_headsOfTrial, Cond.instanceMethod yX4_headsOfTrial, Cond.selects RX4 yX4_headsOfTrial yX4_headsOfTrial, Cond.initialized RX4, Cond.code yX4_headsOfTrial cX4_headsOfTrial 3 (some .int), Cond.methodLink RX4 150 yX0_step, Cond.instanceMethod yX0_step, Cond.selects RX0 yX0_step yX0_step]
def wsX4_advise_r2 : List Cond := [Cond.code yX0_step cX0_step 2 none, Cond.fieldLink RX0 22 "SparkBoards$Board" "headsBeside" "[I", Cond.methodLink RX0 59 yX0_countHeadsBeside, Cond.instanceMethod yX0_countHeadsBeside, Cond.selects RX0 yX0_countHeadsBeside yX0_countHeadsBeside, Cond.code yX0_countHeadsBeside cX0_countHeadsBeside 3 none, Cond.methodLink RX0 25 yJ7_fill_53178, Cond.static yJ7_fill_53178, Cond.initialized RJ7, Cond.code yJ7_fill_53178 cJ7_fill_53178 4 none, Cond.methodLink RX0 37 yX0_cell, Cond.instanceMethod yX0_cell, Cond.selects RX0 yX0_cell yX0_cell, Cond.code yX0_cell cX0_cell 3 (some .int), Cond.methodLink RX0 45 yX0_kind, Cond.instanceMethod yX0_kind, Cond.selects RX0 yX0_kind yX0_kind, Cond.code yX0_kind cX0_kind 2 (some .int), Cond.methodLink RX0 65 yX0_tellNeighbours, Cond.instanceMethod yX0_tellNeighbours, Cond.selects RX0 yX0_tellNeighbours yX0_tellNeighbours, Cond.code yX0_tellNeighbours cX0_tellNeighbours 5 none, Cond.methodLink RX0 49 yX0_neighbour, Cond.instanceMethod yX0_neighbour]
def wsX4_advise_r3 : List Cond := [Cond.selects RX0 yX0_neighbour yX0_neighbour, Cond.code yX0_neighbour cX0_neighbour 4 (some .int), Cond.methodLink RX0 41 yX0_size, Cond.instanceMethod yX0_size, Cond.selects RX0 yX0_size yX0_size, Cond.code yX0_size cX0_size 1 (some .int), Cond.methodLink RX0 62 yX0_next, Cond.static yX0_next, Cond.code yX0_next cX0_next 2 (some .int), Cond.methodLink RX4 138 yX0_many, Cond.instanceMethod yX0_many, Cond.selects RX0 yX0_many yX0_many, Cond.code yX0_many cX0_many 4 (some .int), Cond.methodLink RX4 66 yX0_size, Cond.methodLink RX4 81 yX0_kind, Cond.methodLink RX4 85 yX0_put, Cond.instanceMethod yX0_put, Cond.selects RX0 yX0_put yX0_put, Cond.code yX0_put cX0_put 3 none]
def wsX4_advise : List Cond := .code yX4_advise cX4_advise 6 (some .int) :: ((wsX4_advise_r1 ++ (wsX4_advise_r2 ++ wsX4_advise_r3)) ++ wsX40 ++ wsX00 ++ (vx_atS RX4 58 "java/lang/IllegalArgumentException" ["java/lang/RuntimeException", "java/lang/Exception"]).filter goodWord)
def wsX4_mean : List Cond := .code yX4_mean cX4_mean 1 (some .double) :: ([.fieldLink RX4 42 "SparkBoards" "stepsGone" "I", .fieldLink RX4 46 "SparkBoards" "headsOfAllSteps" "J"] ++ wsX40)
def wsX4_digest_r1 : List Cond := [Cond.constantLong RX4 233 (1723), Cond.constantLong RX4 235 (31), Cond.fieldLink RX4 14 "SparkBoards" "board" "LSparkBoards$Board;", Cond.fieldLink RX4 31 "SparkBoards" "lamps" "LSparkBoards$Lamps;", Cond.fieldLink RX4 46 "SparkBoards" "headsOfAllSteps" "J", Cond.methodLink RX4 237 yX4_count, Cond.instanceMethod yX4_count, Cond.selects RX4 yX4_count yX4_count, Cond.initialized RX4, Cond.code yX4_count cX4_count 2 (some .int), Cond.classLink RX4 74 "java/lang/IndexOutOfBoundsException", Cond.initialized "java/lang/IndexOutOfBoundsException", Cond.fieldLink RX4 42 "SparkBoards" "stepsGone" "I", Cond.fieldLink RX4 24 "SparkBoards" "wires" "LSparkBoards$Wires;", Cond.methodLink RX4 188 yX0_columns, Cond.instanceMethod yX0_columns, Cond.selects RX0 yX0_columns yX0_columns, Cond.initialized RX0, Cond.code yX0_columns cX0_columns 1 (some .int), Cond.fieldLink RX0 9 "SparkBoards$Board" "columns" "I", Cond.methodLink RX4 191 yX0_rows, Cond.instanceMethod yX0_rows, Cond.selects RX0 yX0_rows yX0_rows, Cond.code yX0_rows cX0_rows 1 (some .int)]
def wsX4_digest_r2 : List Cond := [Cond.fieldLink RX0 15 "SparkBoards$Board" "rows" "I", Cond.methodLink RX4 138 yX0_many, Cond.instanceMethod yX0_many, Cond.selects RX0 yX0_many yX0_many, Cond.code yX0_many cX0_many 4 (some .int), Cond.methodLink RX0 41 yX0_size, Cond.instanceMethod yX0_size, Cond.selects RX0 yX0_size yX0_size, Cond.code yX0_size cX0_size 1 (some .int), Cond.methodLink RX0 45 yX0_kind, Cond.instanceMethod yX0_kind, Cond.selects RX0 yX0_kind yX0_kind, Cond.code yX0_kind cX0_kind 2 (some .int), Cond.fieldLink RX0 18 "SparkBoards$Board" "kinds" "[I", Cond.methodLink RX4 194 yX3_pieces, Cond.instanceMethod yX3_pieces, Cond.selects RX3 yX3_pieces yX3_pieces, Cond.initialized RX3, Cond.code yX3_pieces cX3_pieces 5 (some .int), Cond.methodLink RX3 21 yX3_forget, Cond.instanceMethod yX3_forget, Cond.selects RX3 yX3_forget yX3_forget, Cond.code yX3_forget cX3_forget 1 none, Cond.fieldLink RX3 9 "SparkBoards$Wires" "far" "[I"]
def wsX4_digest_r3 : List Cond := [Cond.methodLink RX3 43 yJ7_fill_53178, Cond.static yJ7_fill_53178, Cond.initialized RJ7, Cond.code yJ7_fill_53178 cJ7_fill_53178 4 none, Cond.methodLink RX3 28 yX0_rows, Cond.methodLink RX3 34 yX0_columns, Cond.methodLink RX3 24 yX3_reach, Cond.instanceMethod yX3_reach, Cond.selects RX3 yX3_reach yX3_reach, Cond.code yX3_reach cX3_reach 8 (some .int), Cond.fieldLink RX3 15 "SparkBoards$Wires" "reachedX" "[I", Cond.fieldLink RX3 18 "SparkBoards$Wires" "reachedY" "[I", Cond.methodLink RX3 49 yX3_visit, Cond.instanceMethod yX3_visit, Cond.selects RX3 yX3_visit yX3_visit, Cond.code yX3_visit cX3_visit 7 (some .int), Cond.methodLink RX3 53 yX0_cell, Cond.instanceMethod yX0_cell, Cond.selects RX0 yX0_cell yX0_cell, Cond.code yX0_cell cX0_cell 3 (some .int), Cond.methodLink RX3 62 yX0_kind, Cond.methodLink RX4 198 yX3_sizeOfLongest, Cond.instanceMethod yX3_sizeOfLongest, Cond.selects RX3 yX3_sizeOfLongest yX3_sizeOfLongest]
def wsX4_digest_r4 : List Cond := [Cond.code yX3_sizeOfLongest cX3_sizeOfLongest 5 (some .int), Cond.methodLink RX3 37 Lib.Math.max.name, Cond.static Lib.Math.max.name, Cond.initialized "java/lang/Math", Cond.code Lib.Math.max.name Lib.Math.max.code 2 (some .int), Cond.methodLink RX4 141 yX1_many, Cond.instanceMethod yX1_many, Cond.selects RX1 yX1_many yX1_many, Cond.initialized RX1, Cond.code yX1_many cX1_many 1 (some .int), Cond.fieldLink RX1 9 "SparkBoards$Lamps" "many" "I", Cond.methodLink RX4 201 yX1_litInAll, Cond.instanceMethod yX1_litInAll, Cond.selects RX1 yX1_litInAll yX1_litInAll, Cond.code yX1_litInAll cX1_litInAll 3 (some .int), Cond.fieldLink RX1 22 "SparkBoards$Lamps" "lit" "[I", Cond.methodLink RX4 240 yX4_told, Cond.instanceMethod yX4_told, Cond.selects RX4 yX4_told yX4_told, Cond.code yX4_told cX4_told 5 (some .int), Cond.methodLink RX4 70 yX0_cell, Cond.methodLink RX4 81 yX0_kind, Cond.methodLink RX4 159 yX0_headsAround, Cond.instanceMethod yX0_headsAround]
def wsX4_digest_r5 : List Cond := [Cond.selects RX0 yX0_headsAround yX0_headsAround, Cond.code yX0_headsAround cX0_headsAround 5 (some .int), Cond.methodLink RX0 49 yX0_neighbour, Cond.instanceMethod yX0_neighbour, Cond.selects RX0 yX0_neighbour yX0_neighbour, Cond.code yX0_neighbour cX0_neighbour 4 (some .int), Cond.methodLink RX0 37 yX0_cell, Cond.methodLink RX4 162 yX0_next, Cond.static yX0_next, Cond.code yX0_next cX0_next 2 (some .int), Cond.methodLink RX4 165 yX3_sizeOfPiece, Cond.instanceMethod yX3_sizeOfPiece, Cond.selects RX3 yX3_sizeOfPiece yX3_sizeOfPiece, Cond.code yX3_sizeOfPiece cX3_sizeOfPiece 4 (some .int), Cond.methodLink RX4 169 yX0_wiredAround, Cond.instanceMethod yX0_wiredAround, Cond.selects RX0 yX0_wiredAround yX0_wiredAround, Cond.code yX0_wiredAround cX0_wiredAround 5 (some .int), Cond.methodLink RX4 244 yX4_about, Cond.instanceMethod yX4_about, Cond.selects RX4 yX4_about yX4_about, Cond.code yX4_about cX4_about 3 (some .int), Cond.methodLink RX4 174 yX1_column, Cond.instanceMethod yX1_column]
def wsX4_digest_r6 : List Cond := [Cond.selects RX1 yX1_column yX1_column, Cond.code yX1_column cX1_column 2 (some .int), Cond.fieldLink RX1 15 "SparkBoards$Lamps" "columns" "[I", Cond.methodLink RX1 28 yX1_isLamp, Cond.instanceMethod yX1_isLamp, Cond.selects RX1 yX1_isLamp yX1_isLamp, Cond.code yX1_isLamp cX1_isLamp 2 (some .boolean), Cond.methodLink RX4 177 yX1_row, Cond.instanceMethod yX1_row, Cond.selects RX1 yX1_row yX1_row, Cond.code yX1_row cX1_row 2 (some .int), Cond.fieldLink RX1 19 "SparkBoards$Lamps" "rows" "[I", Cond.methodLink RX4 180 yX1_lit, Cond.instanceMethod yX1_lit, Cond.selects RX1 yX1_lit yX1_lit, Cond.code yX1_lit cX1_lit 2 (some .int), Cond.methodLink RX4 183 yX1_latest, Cond.instanceMethod yX1_latest, Cond.selects RX1 yX1_latest yX1_latest, Cond.code yX1_latest cX1_latest 2 (some .int), Cond.fieldLink RX1 25 "SparkBoards$Lamps" "latest" "[I"]
def wsX4_digest : List Cond := .code yX4_digest cX4_digest 6 (some .long) :: ((wsX4_digest_r1 ++ (wsX4_digest_r2 ++ (wsX4_digest_r3 ++ (wsX4_digest_r4 ++ (wsX4_digest_r5 ++ wsX4_digest_r6))))) ++ wsX40 ++ wsX00 ++ wsX30 ++ wsX10 ++ (vx_atS RX4 78 "java/lang/IndexOutOfBoundsException" ["java/lang/RuntimeException", "java/lang/Exception"]).filter goodWord)
def wsX5_init : List Cond := .code yX5_init cX5_init 1 none :: ([.methodLink RX5 1 objectInit, .instanceMethod objectInit, .code objectInit ⟨#[0xb1]⟩ 1 none, .fieldLink RX5 7 "SparkBoardsModel" "columns" "I", .fieldLink RX5 13 "SparkBoardsModel" "rows" "I", .arrayClass .int, .fieldLink RX5 16 "SparkBoardsModel" "now" "[I", .fieldLink RX5 20 "SparkBoardsModel" "kept" "[I", .fieldLink RX5 23 "SparkBoardsModel" "other" "[I", .fieldLink RX5 26 "SparkBoardsModel" "lampRow" "[I", .fieldLink RX5 29 "SparkBoardsModel" "lampKept" "[I", .fieldLink RX5 32 "SparkBoardsModel" "were" "[I", .fieldLink RX5 35 "SparkBoardsModel" "marks" "[I", .fieldLink RX5 38 "SparkBoardsModel" "line" "[I"] ++ wsX50)
def wsX5_thrown : List Cond := .code yX5_thrown cX5_thrown 1 (some .int) :: ([.fieldLink RX5 41 "SparkBoardsModel" "thrown" "I"] ++ wsX50)
def wsX5_fail : List Cond := .code yX5_fail cX5_fail 2 (some .int) :: ([.fieldLink RX5 41 "SparkBoardsModel" "thrown" "I"] ++ wsX50)
def wsX5_isIn : List Cond := .code yX5_isIn cX5_isIn 3 (some .boolean) :: ([])
def wsX5_isCell : List Cond := .code yX5_isCell cX5_isCell 3 (some .boolean) :: ([.fieldLink RX5 7 "SparkBoardsModel" "columns" "I", .fieldLink RX5 13 "SparkBoardsModel" "rows" "I", .methodLink RX5 44 yX5_isIn, .static yX5_isIn, .initialized RX5, .code yX5_isIn cX5_isIn 3 (some .boolean)] ++ wsX50)
def wsX5_at : List Cond := .code yX5_at cX5_at 2 (some .int) :: ([])
def wsX5_cell : List Cond := .code yX5_cell cX5_cell 2 (some .int) :: ([.fieldLink RX5 7 "SparkBoardsModel" "columns" "I", .methodLink RX5 48 yX5_at, .static yX5_at, .initialized RX5, .code yX5_at cX5_at 2 (some .int)] ++ wsX50)
def wsX5_around : List Cond := .code yX5_around cX5_around 8 (some .int) :: ([.fieldLink RX5 52 "SparkBoardsModel" "STEP" "[I", .fieldLink RX5 16 "SparkBoardsModel" "now" "[I"] ++ wsX50)
def wsX5_next : List Cond := .code yX5_next cX5_next 3 (some .int) :: ([.fieldLink RX5 16 "SparkBoardsModel" "now" "[I", .methodLink RX5 55 yX5_around, .instanceMethod yX5_around, .selects RX5 yX5_around yX5_around, .initialized RX5, .code yX5_around cX5_around 8 (some .int), .fieldLink RX5 52 "SparkBoardsModel" "STEP" "[I"] ++ wsX50)
def wsX5_cells : List Cond := .code yX5_cells cX5_cells 4 (some .int) :: ([.fieldLink RX5 7 "SparkBoardsModel" "columns" "I", .fieldLink RX5 13 "SparkBoardsModel" "rows" "I", .fieldLink RX5 16 "SparkBoardsModel" "now" "[I", .methodLink RX5 58 yX5_cell, .instanceMethod yX5_cell, .selects RX5 yX5_cell yX5_cell, .initialized RX5, .code yX5_cell cX5_cell 2 (some .int), .methodLink RX5 48 yX5_at, .static yX5_at, .code yX5_at cX5_at 2 (some .int)] ++ wsX50)
def wsX5_step : List Cond := .code yX5_step cX5_step 2 none :: ([.fieldLink RX5 7 "SparkBoardsModel" "columns" "I", .fieldLink RX5 13 "SparkBoardsModel" "rows" "I", .fieldLink RX5 23 "SparkBoardsModel" "other" "[I", .fieldLink RX5 16 "SparkBoardsModel" "now" "[I", .methodLink RX5 58 yX5_cell, .instanceMethod yX5_cell, .selects RX5 yX5_cell yX5_cell, .initialized RX5, .code yX5_cell cX5_cell 2 (some .int), .methodLink RX5 48 yX5_at, .static yX5_at, .code yX5_at cX5_at 2 (some .int), .methodLink RX5 62 yX5_next, .instanceMethod yX5_next, .selects RX5 yX5_next yX5_next, .code yX5_next cX5_next 3 (some .int), .methodLink RX5 55 yX5_around, .instanceMethod yX5_around, .selects RX5 yX5_around yX5_around, .code yX5_around cX5_around 8 (some .int), .fieldLink RX5 52 "SparkBoardsModel" "STEP" "[I"] ++ wsX50)
def wsX5_light : List Cond := .code yX5_light cX5_light 3 none :: ([.fieldLink RX5 65 "SparkBoardsModel" "lamps" "I", .fieldLink RX5 16 "SparkBoardsModel" "now" "[I", .fieldLink RX5 26 "SparkBoardsModel" "lampRow" "[I"] ++ wsX50)
def wsX5_keep : List Cond := .code yX5_keep cX5_keep 1 none :: ([.fieldLink RX5 16 "SparkBoardsModel" "now" "[I", .fieldLink RX5 20 "SparkBoardsModel" "kept" "[I", .methodLink RX5 68 arraycopyName, .native arraycopyName, .static arraycopyName, .initialized "java/lang/System", .fieldLink RX5 26 "SparkBoardsModel" "lampRow" "[I", .fieldLink RX5 29 "SparkBoardsModel" "lampKept" "[I"] ++ wsX50)
def wsX5_bringBack : List Cond := .code yX5_bringBack cX5_bringBack 1 none :: ([.fieldLink RX5 20 "SparkBoardsModel" "kept" "[I", .fieldLink RX5 16 "SparkBoardsModel" "now" "[I", .methodLink RX5 68 arraycopyName, .native arraycopyName, .static arraycopyName, .initialized "java/lang/System", .fieldLink RX5 29 "SparkBoardsModel" "lampKept" "[I", .fieldLink RX5 26 "SparkBoardsModel" "lampRow" "[I"] ++ wsX50)
def wsX5_setBoard : List Cond := .code yX5_setBoard cX5_setBoard 4 (some .int) :: ([.fieldLink RX5 41 "SparkBoardsModel" "thrown" "I", .fieldLink RX5 7 "SparkBoardsModel" "columns" "I", .fieldLink RX5 13 "SparkBoardsModel" "rows" "I", .fieldLink RX5 65 "SparkBoardsModel" "lamps" "I", .fieldLink RX5 16 "SparkBoardsModel" "now" "[I", .methodLink RX5 44 yX5_isIn, .static yX5_isIn, .initialized RX5, .code yX5_isIn cX5_isIn 3 (some .boolean), .methodLink RX5 74 yX5_fail, .instanceMethod yX5_fail, .selects RX5 yX5_fail yX5_fail, .code yX5_fail cX5_fail 2 (some .int)] ++ wsX50)
def wsX5_set : List Cond := .code yX5_set cX5_set 5 (some .int) :: ([.fieldLink RX5 41 "SparkBoardsModel" "thrown" "I", .fieldLink RX5 16 "SparkBoardsModel" "now" "[I", .methodLink RX5 77 yX5_isCell, .instanceMethod yX5_isCell, .selects RX5 yX5_isCell yX5_isCell, .initialized RX5, .code yX5_isCell cX5_isCell 3 (some .boolean), .fieldLink RX5 7 "SparkBoardsModel" "columns" "I", .fieldLink RX5 13 "SparkBoardsModel" "rows" "I", .methodLink RX5 44 yX5_isIn, .static yX5_isIn, .code yX5_isIn cX5_isIn 3 (some .boolean), .methodLink RX5 74 yX5_fail, .instanceMethod yX5_fail, .selects RX5 yX5_fail yX5_fail, .code yX5_fail cX5_fail 2 (some .int), .methodLink RX5 48 yX5_at, .static yX5_at, .code yX5_at cX5_at 2 (some .int)] ++ wsX50)
def wsX5_lay : List Cond := .code yX5_lay cX5_lay 2 (some .int) :: ([.fieldLink RX5 16 "SparkBoardsModel" "now" "[I"] ++ wsX50)
def wsJ6_signum_0f7a4 : List Cond := .code yJ6_signum_0f7a4 cJ6_signum_0f7a4 1 (some .int) :: ([])
def wsX5_line_r1 : List Cond := [Cond.fieldLink RX5 41 "SparkBoardsModel" "thrown" "I", Cond.methodLink RX5 81 Lib.Math.abs.name, Cond.static Lib.Math.abs.name, Cond.initialized "java/lang/Math", Cond.code Lib.Math.abs.name Lib.Math.abs.code 1 (some .int), Cond.methodLink RX5 77 yX5_isCell, Cond.instanceMethod yX5_isCell, Cond.selects RX5 yX5_isCell yX5_isCell, Cond.initialized RX5, Cond.code yX5_isCell cX5_isCell 3 (some .boolean), Cond.fieldLink RX5 7 "SparkBoardsModel" "columns" "I", Cond.fieldLink RX5 13 "SparkBoardsModel" "rows" "I", Cond.methodLink RX5 44 yX5_isIn, Cond.static yX5_isIn, Cond.code yX5_isIn cX5_isIn 3 (some .boolean), Cond.methodLink RX5 74 yX5_fail, Cond.instanceMethod yX5_fail, Cond.selects RX5 yX5_fail yX5_fail, Cond.code yX5_fail cX5_fail 2 (some .int), Cond.methodLink RX5 86 yJ6_signum_0f7a4, Cond.static yJ6_signum_0f7a4, Cond.initialized RJ6, Cond.code yJ6_signum_0f7a4 cJ6_signum_0f7a4 1 (some .int), Cond.methodLink RX5 48 yX5_at]
def wsX5_line_r2 : List Cond := [Cond.static yX5_at, Cond.code yX5_at cX5_at 2 (some .int), Cond.methodLink RX5 91 yX5_lay, Cond.instanceMethod yX5_lay, Cond.selects RX5 yX5_lay yX5_lay, Cond.code yX5_lay cX5_lay 2 (some .int), Cond.fieldLink RX5 16 "SparkBoardsModel" "now" "[I"]
def wsX5_line : List Cond := .code yX5_line cX5_line 10 (some .int) :: ((wsX5_line_r1 ++ wsX5_line_r2) ++ wsX50)
def wsX5_ring : List Cond := .code yX5_ring cX5_ring 7 (some .int) :: ([.fieldLink RX5 41 "SparkBoardsModel" "thrown" "I", .fieldLink RX5 7 "SparkBoardsModel" "columns" "I", .fieldLink RX5 13 "SparkBoardsModel" "rows" "I", .methodLink RX5 74 yX5_fail, .instanceMethod yX5_fail, .selects RX5 yX5_fail yX5_fail, .initialized RX5, .code yX5_fail cX5_fail 2 (some .int), .methodLink RX5 77 yX5_isCell, .instanceMethod yX5_isCell, .selects RX5 yX5_isCell yX5_isCell, .code yX5_isCell cX5_isCell 3 (some .boolean), .methodLink RX5 44 yX5_isIn, .static yX5_isIn, .code yX5_isIn cX5_isIn 3 (some .boolean), .methodLink RX5 48 yX5_at, .static yX5_at, .code yX5_at cX5_at 2 (some .int), .methodLink RX5 91 yX5_lay, .instanceMethod yX5_lay, .selects RX5 yX5_lay yX5_lay, .code yX5_lay cX5_lay 2 (some .int), .fieldLink RX5 16 "SparkBoardsModel" "now" "[I"] ++ wsX50)
def wsX5_stamp : List Cond := .code yX5_stamp cX5_stamp 14 (some .int) :: ([.fieldLink RX5 41 "SparkBoardsModel" "thrown" "I", .fieldLink RX5 7 "SparkBoardsModel" "columns" "I", .fieldLink RX5 13 "SparkBoardsModel" "rows" "I", .fieldLink RX5 94 "SparkBoardsModel" "STAMPS" "[[I", .fieldLink RX5 16 "SparkBoardsModel" "now" "[I", .methodLink RX5 44 yX5_isIn, .static yX5_isIn, .initialized RX5, .code yX5_isIn cX5_isIn 3 (some .boolean), .methodLink RX5 77 yX5_isCell, .instanceMethod yX5_isCell, .selects RX5 yX5_isCell yX5_isCell, .code yX5_isCell cX5_isCell 3 (some .boolean), .methodLink RX5 74 yX5_fail, .instanceMethod yX5_fail, .selects RX5 yX5_fail yX5_fail, .code yX5_fail cX5_fail 2 (some .int), .methodLink RX5 48 yX5_at, .static yX5_at, .code yX5_at cX5_at 2 (some .int)] ++ wsX50)
def wsX5_spark_r1 : List Cond := [Cond.fieldLink RX5 41 "SparkBoardsModel" "thrown" "I", Cond.fieldLink RX5 52 "SparkBoardsModel" "STEP" "[I", Cond.fieldLink RX5 16 "SparkBoardsModel" "now" "[I", Cond.methodLink RX5 77 yX5_isCell, Cond.instanceMethod yX5_isCell, Cond.selects RX5 yX5_isCell yX5_isCell, Cond.initialized RX5, Cond.code yX5_isCell cX5_isCell 3 (some .boolean), Cond.fieldLink RX5 7 "SparkBoardsModel" "columns" "I", Cond.fieldLink RX5 13 "SparkBoardsModel" "rows" "I", Cond.methodLink RX5 44 yX5_isIn, Cond.static yX5_isIn, Cond.code yX5_isIn cX5_isIn 3 (some .boolean), Cond.methodLink RX5 74 yX5_fail, Cond.instanceMethod yX5_fail, Cond.selects RX5 yX5_fail yX5_fail, Cond.code yX5_fail cX5_fail 2 (some .int), Cond.methodLink RX5 48 yX5_at, Cond.static yX5_at, Cond.code yX5_at cX5_at 2 (some .int), Cond.methodLink RX5 98 yX5_cells, Cond.instanceMethod yX5_cells, Cond.selects RX5 yX5_cells yX5_cells, Cond.code yX5_cells cX5_cells 4 (some .int)]
def wsX5_spark_r2 : List Cond := [Cond.methodLink RX5 58 yX5_cell, Cond.instanceMethod yX5_cell, Cond.selects RX5 yX5_cell yX5_cell, Cond.code yX5_cell cX5_cell 2 (some .int)]
def wsX5_spark : List Cond := .code yX5_spark cX5_spark 6 (some .int) :: ((wsX5_spark_r1 ++ wsX5_spark_r2) ++ wsX50)
def wsX5_lamp : List Cond := .code yX5_lamp cX5_lamp 3 (some .int) :: ([.fieldLink RX5 41 "SparkBoardsModel" "thrown" "I", .fieldLink RX5 65 "SparkBoardsModel" "lamps" "I", .fieldLink RX5 26 "SparkBoardsModel" "lampRow" "[I", .methodLink RX5 77 yX5_isCell, .instanceMethod yX5_isCell, .selects RX5 yX5_isCell yX5_isCell, .initialized RX5, .code yX5_isCell cX5_isCell 3 (some .boolean), .fieldLink RX5 7 "SparkBoardsModel" "columns" "I", .fieldLink RX5 13 "SparkBoardsModel" "rows" "I", .methodLink RX5 44 yX5_isIn, .static yX5_isIn, .code yX5_isIn cX5_isIn 3 (some .boolean), .methodLink RX5 74 yX5_fail, .instanceMethod yX5_fail, .selects RX5 yX5_fail yX5_fail, .code yX5_fail cX5_fail 2 (some .int), .methodLink RX5 48 yX5_at, .static yX5_at, .code yX5_at cX5_at 2 (some .int)] ++ wsX50)
def wsX5_pass_r1 : List Cond := [Cond.fieldLink RX5 41 "SparkBoardsModel" "thrown" "I", Cond.fieldLink RX5 104 "SparkBoardsModel" "steps" "I", Cond.fieldLink RX5 111 "SparkBoardsModel" "added" "I", Cond.methodLink RX5 44 yX5_isIn, Cond.static yX5_isIn, Cond.initialized RX5, Cond.code yX5_isIn cX5_isIn 3 (some .boolean), Cond.methodLink RX5 74 yX5_fail, Cond.instanceMethod yX5_fail, Cond.selects RX5 yX5_fail yX5_fail, Cond.code yX5_fail cX5_fail 2 (some .int), Cond.methodLink RX5 101 yX5_step, Cond.instanceMethod yX5_step, Cond.selects RX5 yX5_step yX5_step, Cond.code yX5_step cX5_step 2 none, Cond.fieldLink RX5 7 "SparkBoardsModel" "columns" "I", Cond.fieldLink RX5 13 "SparkBoardsModel" "rows" "I", Cond.fieldLink RX5 23 "SparkBoardsModel" "other" "[I", Cond.fieldLink RX5 16 "SparkBoardsModel" "now" "[I", Cond.methodLink RX5 58 yX5_cell, Cond.instanceMethod yX5_cell, Cond.selects RX5 yX5_cell yX5_cell, Cond.code yX5_cell cX5_cell 2 (some .int), Cond.methodLink RX5 48 yX5_at]
def wsX5_pass_r2 : List Cond := [Cond.static yX5_at, Cond.code yX5_at cX5_at 2 (some .int), Cond.methodLink RX5 62 yX5_next, Cond.instanceMethod yX5_next, Cond.selects RX5 yX5_next yX5_next, Cond.code yX5_next cX5_next 3 (some .int), Cond.methodLink RX5 55 yX5_around, Cond.instanceMethod yX5_around, Cond.selects RX5 yX5_around yX5_around, Cond.code yX5_around cX5_around 8 (some .int), Cond.fieldLink RX5 52 "SparkBoardsModel" "STEP" "[I", Cond.methodLink RX5 107 yX5_light, Cond.instanceMethod yX5_light, Cond.selects RX5 yX5_light yX5_light, Cond.code yX5_light cX5_light 3 none, Cond.fieldLink RX5 65 "SparkBoardsModel" "lamps" "I", Cond.fieldLink RX5 26 "SparkBoardsModel" "lampRow" "[I", Cond.methodLink RX5 98 yX5_cells, Cond.instanceMethod yX5_cells, Cond.selects RX5 yX5_cells yX5_cells, Cond.code yX5_cells cX5_cells 4 (some .int)]
def wsX5_pass : List Cond := .code yX5_pass cX5_pass 3 (some .int) :: ((wsX5_pass_r1 ++ wsX5_pass_r2) ++ wsX50)
def wsX5_spread : List Cond := .code yX5_spread cX5_spread 9 (some .int) :: ([.fieldLink RX5 35 "SparkBoardsModel" "marks" "[I", .fieldLink RX5 38 "SparkBoardsModel" "line" "[I", .fieldLink RX5 52 "SparkBoardsModel" "STEP" "[I", .fieldLink RX5 16 "SparkBoardsModel" "now" "[I"] ++ wsX50)
def wsX5_piece : List Cond := .code yX5_piece cX5_piece 2 (some .int) :: ([.fieldLink RX5 16 "SparkBoardsModel" "now" "[I", .methodLink RX5 114 yX5_spread, .instanceMethod yX5_spread, .selects RX5 yX5_spread yX5_spread, .initialized RX5, .code yX5_spread cX5_spread 9 (some .int), .fieldLink RX5 35 "SparkBoardsModel" "marks" "[I", .fieldLink RX5 38 "SparkBoardsModel" "line" "[I", .fieldLink RX5 52 "SparkBoardsModel" "STEP" "[I"] ++ wsX50)
def wsX5_cellTold : List Cond := .code yX5_cellTold cX5_cellTold 3 (some .int) :: ([.fieldLink RX5 16 "SparkBoardsModel" "now" "[I", .methodLink RX5 55 yX5_around, .instanceMethod yX5_around, .selects RX5 yX5_around yX5_around, .initialized RX5, .code yX5_around cX5_around 8 (some .int), .fieldLink RX5 52 "SparkBoardsModel" "STEP" "[I", .methodLink RX5 62 yX5_next, .instanceMethod yX5_next, .selects RX5 yX5_next yX5_next, .code yX5_next cX5_next 3 (some .int), .methodLink RX5 117 yX5_piece, .instanceMethod yX5_piece, .selects RX5 yX5_piece yX5_piece, .code yX5_piece cX5_piece 2 (some .int), .methodLink RX5 114 yX5_spread, .instanceMethod yX5_spread, .selects RX5 yX5_spread yX5_spread, .code yX5_spread cX5_spread 9 (some .int), .fieldLink RX5 35 "SparkBoardsModel" "marks" "[I", .fieldLink RX5 38 "SparkBoardsModel" "line" "[I"] ++ wsX50)
def wsX5_told_r1 : List Cond := [Cond.fieldLink RX5 41 "SparkBoardsModel" "thrown" "I", Cond.methodLink RX5 77 yX5_isCell, Cond.instanceMethod yX5_isCell, Cond.selects RX5 yX5_isCell yX5_isCell, Cond.initialized RX5, Cond.code yX5_isCell cX5_isCell 3 (some .boolean), Cond.fieldLink RX5 7 "SparkBoardsModel" "columns" "I", Cond.fieldLink RX5 13 "SparkBoardsModel" "rows" "I", Cond.methodLink RX5 44 yX5_isIn, Cond.static yX5_isIn, Cond.code yX5_isIn cX5_isIn 3 (some .boolean), Cond.methodLink RX5 48 yX5_at, Cond.static yX5_at, Cond.code yX5_at cX5_at 2 (some .int), Cond.methodLink RX5 120 yX5_cellTold, Cond.instanceMethod yX5_cellTold, Cond.selects RX5 yX5_cellTold yX5_cellTold, Cond.code yX5_cellTold cX5_cellTold 3 (some .int), Cond.fieldLink RX5 16 "SparkBoardsModel" "now" "[I", Cond.methodLink RX5 55 yX5_around, Cond.instanceMethod yX5_around, Cond.selects RX5 yX5_around yX5_around, Cond.code yX5_around cX5_around 8 (some .int), Cond.fieldLink RX5 52 "SparkBoardsModel" "STEP" "[I"]
def wsX5_told_r2 : List Cond := [Cond.methodLink RX5 62 yX5_next, Cond.instanceMethod yX5_next, Cond.selects RX5 yX5_next yX5_next, Cond.code yX5_next cX5_next 3 (some .int), Cond.methodLink RX5 117 yX5_piece, Cond.instanceMethod yX5_piece, Cond.selects RX5 yX5_piece yX5_piece, Cond.code yX5_piece cX5_piece 2 (some .int), Cond.methodLink RX5 114 yX5_spread, Cond.instanceMethod yX5_spread, Cond.selects RX5 yX5_spread yX5_spread, Cond.code yX5_spread cX5_spread 9 (some .int), Cond.fieldLink RX5 35 "SparkBoardsModel" "marks" "[I", Cond.fieldLink RX5 38 "SparkBoardsModel" "line" "[I", Cond.methodLink RX5 74 yX5_fail, Cond.instanceMethod yX5_fail, Cond.selects RX5 yX5_fail yX5_fail, Cond.code yX5_fail cX5_fail 2 (some .int)]
def wsX5_told : List Cond := .code yX5_told cX5_told 4 (some .int) :: ((wsX5_told_r1 ++ wsX5_told_r2) ++ wsX50)
def wsX5_lampTold : List Cond := .code yX5_lampTold cX5_lampTold 4 (some .int) :: ([.fieldLink RX5 26 "SparkBoardsModel" "lampRow" "[I"] ++ wsX50)
def wsX5_about : List Cond := .code yX5_about cX5_about 3 (some .int) :: ([.fieldLink RX5 41 "SparkBoardsModel" "thrown" "I", .fieldLink RX5 65 "SparkBoardsModel" "lamps" "I", .methodLink RX5 44 yX5_isIn, .static yX5_isIn, .initialized RX5, .code yX5_isIn cX5_isIn 3 (some .boolean), .methodLink RX5 123 yX5_lampTold, .instanceMethod yX5_lampTold, .selects RX5 yX5_lampTold yX5_lampTold, .code yX5_lampTold cX5_lampTold 4 (some .int), .fieldLink RX5 26 "SparkBoardsModel" "lampRow" "[I", .methodLink RX5 74 yX5_fail, .instanceMethod yX5_fail, .selects RX5 yX5_fail yX5_fail, .code yX5_fail cX5_fail 2 (some .int)] ++ wsX50)
def wsX5_pieces : List Cond := .code yX5_pieces cX5_pieces 8 (some .int) :: ([.fieldLink RX5 7 "SparkBoardsModel" "columns" "I", .fieldLink RX5 13 "SparkBoardsModel" "rows" "I", .fieldLink RX5 16 "SparkBoardsModel" "now" "[I", .methodLink RX5 126 Lib.Math.max.name, .static Lib.Math.max.name, .initialized "java/lang/Math", .code Lib.Math.max.name Lib.Math.max.code 2 (some .int), .fieldLink RX5 35 "SparkBoardsModel" "marks" "[I", .methodLink RX5 58 yX5_cell, .instanceMethod yX5_cell, .selects RX5 yX5_cell yX5_cell, .initialized RX5, .code yX5_cell cX5_cell 2 (some .int), .methodLink RX5 48 yX5_at, .static yX5_at, .code yX5_at cX5_at 2 (some .int), .methodLink RX5 114 yX5_spread, .instanceMethod yX5_spread, .selects RX5 yX5_spread yX5_spread, .code yX5_spread cX5_spread 9 (some .int), .fieldLink RX5 38 "SparkBoardsModel" "line" "[I", .fieldLink RX5 52 "SparkBoardsModel" "STEP" "[I"] ++ wsX50)
def wsX5_lit : List Cond := .code yX5_lit cX5_lit 3 (some .int) :: ([.fieldLink RX5 65 "SparkBoardsModel" "lamps" "I", .fieldLink RX5 26 "SparkBoardsModel" "lampRow" "[I"] ++ wsX50)
def wsX5_counted_r1 : List Cond := [Cond.fieldLink RX5 104 "SparkBoardsModel" "steps" "I", Cond.fieldLink RX5 7 "SparkBoardsModel" "columns" "I", Cond.fieldLink RX5 13 "SparkBoardsModel" "rows" "I", Cond.fieldLink RX5 65 "SparkBoardsModel" "lamps" "I", Cond.methodLink RX5 98 yX5_cells, Cond.instanceMethod yX5_cells, Cond.selects RX5 yX5_cells yX5_cells, Cond.initialized RX5, Cond.code yX5_cells cX5_cells 4 (some .int), Cond.fieldLink RX5 16 "SparkBoardsModel" "now" "[I", Cond.methodLink RX5 58 yX5_cell, Cond.instanceMethod yX5_cell, Cond.selects RX5 yX5_cell yX5_cell, Cond.code yX5_cell cX5_cell 2 (some .int), Cond.methodLink RX5 48 yX5_at, Cond.static yX5_at, Cond.code yX5_at cX5_at 2 (some .int), Cond.methodLink RX5 129 yX5_pieces, Cond.instanceMethod yX5_pieces, Cond.selects RX5 yX5_pieces yX5_pieces, Cond.code yX5_pieces cX5_pieces 8 (some .int), Cond.methodLink RX5 126 Lib.Math.max.name, Cond.static Lib.Math.max.name, Cond.initialized "java/lang/Math"]
def wsX5_counted_r2 : List Cond := [Cond.code Lib.Math.max.name Lib.Math.max.code 2 (some .int), Cond.fieldLink RX5 35 "SparkBoardsModel" "marks" "[I", Cond.methodLink RX5 114 yX5_spread, Cond.instanceMethod yX5_spread, Cond.selects RX5 yX5_spread yX5_spread, Cond.code yX5_spread cX5_spread 9 (some .int), Cond.fieldLink RX5 38 "SparkBoardsModel" "line" "[I", Cond.fieldLink RX5 52 "SparkBoardsModel" "STEP" "[I", Cond.methodLink RX5 133 yX5_lit, Cond.instanceMethod yX5_lit, Cond.selects RX5 yX5_lit yX5_lit, Cond.code yX5_lit cX5_lit 3 (some .int), Cond.fieldLink RX5 26 "SparkBoardsModel" "lampRow" "[I"]
def wsX5_counted : List Cond := .code yX5_counted cX5_counted 2 (some .int) :: ((wsX5_counted_r1 ++ wsX5_counted_r2) ++ wsX50)
def wsX5_count_r1 : List Cond := [Cond.fieldLink RX5 41 "SparkBoardsModel" "thrown" "I", Cond.methodLink RX5 44 yX5_isIn, Cond.static yX5_isIn, Cond.initialized RX5, Cond.code yX5_isIn cX5_isIn 3 (some .boolean), Cond.methodLink RX5 137 yX5_counted, Cond.instanceMethod yX5_counted, Cond.selects RX5 yX5_counted yX5_counted, Cond.code yX5_counted cX5_counted 2 (some .int), Cond.fieldLink RX5 104 "SparkBoardsModel" "steps" "I", Cond.fieldLink RX5 7 "SparkBoardsModel" "columns" "I", Cond.fieldLink RX5 13 "SparkBoardsModel" "rows" "I", Cond.fieldLink RX5 65 "SparkBoardsModel" "lamps" "I", Cond.methodLink RX5 98 yX5_cells, Cond.instanceMethod yX5_cells, Cond.selects RX5 yX5_cells yX5_cells, Cond.code yX5_cells cX5_cells 4 (some .int), Cond.fieldLink RX5 16 "SparkBoardsModel" "now" "[I", Cond.methodLink RX5 58 yX5_cell, Cond.instanceMethod yX5_cell, Cond.selects RX5 yX5_cell yX5_cell, Cond.code yX5_cell cX5_cell 2 (some .int), Cond.methodLink RX5 48 yX5_at, Cond.static yX5_at]
def wsX5_count_r2 : List Cond := [Cond.code yX5_at cX5_at 2 (some .int), Cond.methodLink RX5 129 yX5_pieces, Cond.instanceMethod yX5_pieces, Cond.selects RX5 yX5_pieces yX5_pieces, Cond.code yX5_pieces cX5_pieces 8 (some .int), Cond.methodLink RX5 126 Lib.Math.max.name, Cond.static Lib.Math.max.name, Cond.initialized "java/lang/Math", Cond.code Lib.Math.max.name Lib.Math.max.code 2 (some .int), Cond.fieldLink RX5 35 "SparkBoardsModel" "marks" "[I", Cond.methodLink RX5 114 yX5_spread, Cond.instanceMethod yX5_spread, Cond.selects RX5 yX5_spread yX5_spread, Cond.code yX5_spread cX5_spread 9 (some .int), Cond.fieldLink RX5 38 "SparkBoardsModel" "line" "[I", Cond.fieldLink RX5 52 "SparkBoardsModel" "STEP" "[I", Cond.methodLink RX5 133 yX5_lit, Cond.instanceMethod yX5_lit, Cond.selects RX5 yX5_lit yX5_lit, Cond.code yX5_lit cX5_lit 3 (some .int), Cond.fieldLink RX5 26 "SparkBoardsModel" "lampRow" "[I", Cond.methodLink RX5 74 yX5_fail, Cond.instanceMethod yX5_fail, Cond.selects RX5 yX5_fail yX5_fail]
def wsX5_count_r3 : List Cond := [Cond.code yX5_fail cX5_fail 2 (some .int)]
def wsX5_count : List Cond := .code yX5_count cX5_count 2 (some .int) :: ((wsX5_count_r1 ++ (wsX5_count_r2 ++ wsX5_count_r3)) ++ wsX50)
def wsX5_way_r1 : List Cond := [Cond.fieldLink RX5 41 "SparkBoardsModel" "thrown" "I", Cond.fieldLink RX5 16 "SparkBoardsModel" "now" "[I", Cond.fieldLink RX5 35 "SparkBoardsModel" "marks" "[I", Cond.methodLink RX5 77 yX5_isCell, Cond.instanceMethod yX5_isCell, Cond.selects RX5 yX5_isCell yX5_isCell, Cond.initialized RX5, Cond.code yX5_isCell cX5_isCell 3 (some .boolean), Cond.fieldLink RX5 7 "SparkBoardsModel" "columns" "I", Cond.fieldLink RX5 13 "SparkBoardsModel" "rows" "I", Cond.methodLink RX5 44 yX5_isIn, Cond.static yX5_isIn, Cond.code yX5_isIn cX5_isIn 3 (some .boolean), Cond.methodLink RX5 74 yX5_fail, Cond.instanceMethod yX5_fail, Cond.selects RX5 yX5_fail yX5_fail, Cond.code yX5_fail cX5_fail 2 (some .int), Cond.methodLink RX5 48 yX5_at, Cond.static yX5_at, Cond.code yX5_at cX5_at 2 (some .int), Cond.methodLink RX5 114 yX5_spread, Cond.instanceMethod yX5_spread, Cond.selects RX5 yX5_spread yX5_spread, Cond.code yX5_spread cX5_spread 9 (some .int)]
def wsX5_way_r2 : List Cond := [Cond.fieldLink RX5 38 "SparkBoardsModel" "line" "[I", Cond.fieldLink RX5 52 "SparkBoardsModel" "STEP" "[I"]
def wsX5_way : List Cond := .code yX5_way cX5_way 5 (some .int) :: ((wsX5_way_r1 ++ wsX5_way_r2) ++ wsX50)
def wsX5_isAsIt : List Cond := .code yX5_isAsIt cX5_isAsIt 3 (some .boolean) :: ([.fieldLink RX5 32 "SparkBoardsModel" "were" "[I", .fieldLink RX5 16 "SparkBoardsModel" "now" "[I"] ++ wsX50)
def wsX5_period_r1 : List Cond := [Cond.fieldLink RX5 41 "SparkBoardsModel" "thrown" "I", Cond.fieldLink RX5 16 "SparkBoardsModel" "now" "[I", Cond.fieldLink RX5 32 "SparkBoardsModel" "were" "[I", Cond.methodLink RX5 68 arraycopyName, Cond.native arraycopyName, Cond.static arraycopyName, Cond.initialized "java/lang/System", Cond.methodLink RX5 44 yX5_isIn, Cond.static yX5_isIn, Cond.initialized RX5, Cond.code yX5_isIn cX5_isIn 3 (some .boolean), Cond.methodLink RX5 74 yX5_fail, Cond.instanceMethod yX5_fail, Cond.selects RX5 yX5_fail yX5_fail, Cond.code yX5_fail cX5_fail 2 (some .int), Cond.methodLink RX5 140 yX5_keep, Cond.instanceMethod yX5_keep, Cond.selects RX5 yX5_keep yX5_keep, Cond.code yX5_keep cX5_keep 1 none, Cond.fieldLink RX5 20 "SparkBoardsModel" "kept" "[I", Cond.fieldLink RX5 26 "SparkBoardsModel" "lampRow" "[I", Cond.fieldLink RX5 29 "SparkBoardsModel" "lampKept" "[I", Cond.methodLink RX5 143 yX5_isAsIt, Cond.instanceMethod yX5_isAsIt]
def wsX5_period_r2 : List Cond := [Cond.selects RX5 yX5_isAsIt yX5_isAsIt, Cond.code yX5_isAsIt cX5_isAsIt 3 (some .boolean), Cond.methodLink RX5 101 yX5_step, Cond.instanceMethod yX5_step, Cond.selects RX5 yX5_step yX5_step, Cond.code yX5_step cX5_step 2 none, Cond.fieldLink RX5 7 "SparkBoardsModel" "columns" "I", Cond.fieldLink RX5 13 "SparkBoardsModel" "rows" "I", Cond.fieldLink RX5 23 "SparkBoardsModel" "other" "[I", Cond.methodLink RX5 58 yX5_cell, Cond.instanceMethod yX5_cell, Cond.selects RX5 yX5_cell yX5_cell, Cond.code yX5_cell cX5_cell 2 (some .int), Cond.methodLink RX5 48 yX5_at, Cond.static yX5_at, Cond.code yX5_at cX5_at 2 (some .int), Cond.methodLink RX5 62 yX5_next, Cond.instanceMethod yX5_next, Cond.selects RX5 yX5_next yX5_next, Cond.code yX5_next cX5_next 3 (some .int), Cond.methodLink RX5 55 yX5_around, Cond.instanceMethod yX5_around, Cond.selects RX5 yX5_around yX5_around, Cond.code yX5_around cX5_around 8 (some .int)]
def wsX5_period_r3 : List Cond := [Cond.fieldLink RX5 52 "SparkBoardsModel" "STEP" "[I", Cond.methodLink RX5 147 yX5_bringBack, Cond.instanceMethod yX5_bringBack, Cond.selects RX5 yX5_bringBack yX5_bringBack, Cond.code yX5_bringBack cX5_bringBack 1 none]
def wsX5_period : List Cond := .code yX5_period cX5_period 5 (some .int) :: ((wsX5_period_r1 ++ (wsX5_period_r2 ++ wsX5_period_r3)) ++ wsX50)
def wsX5_until_r1 : List Cond := [Cond.fieldLink RX5 41 "SparkBoardsModel" "thrown" "I", Cond.fieldLink RX5 16 "SparkBoardsModel" "now" "[I", Cond.methodLink RX5 77 yX5_isCell, Cond.instanceMethod yX5_isCell, Cond.selects RX5 yX5_isCell yX5_isCell, Cond.initialized RX5, Cond.code yX5_isCell cX5_isCell 3 (some .boolean), Cond.fieldLink RX5 7 "SparkBoardsModel" "columns" "I", Cond.fieldLink RX5 13 "SparkBoardsModel" "rows" "I", Cond.methodLink RX5 44 yX5_isIn, Cond.static yX5_isIn, Cond.code yX5_isIn cX5_isIn 3 (some .boolean), Cond.methodLink RX5 74 yX5_fail, Cond.instanceMethod yX5_fail, Cond.selects RX5 yX5_fail yX5_fail, Cond.code yX5_fail cX5_fail 2 (some .int), Cond.methodLink RX5 140 yX5_keep, Cond.instanceMethod yX5_keep, Cond.selects RX5 yX5_keep yX5_keep, Cond.code yX5_keep cX5_keep 1 none, Cond.fieldLink RX5 20 "SparkBoardsModel" "kept" "[I", Cond.methodLink RX5 68 arraycopyName, Cond.native arraycopyName, Cond.static arraycopyName]
def wsX5_until_r2 : List Cond := [Cond.initialized "java/lang/System", Cond.fieldLink RX5 26 "SparkBoardsModel" "lampRow" "[I", Cond.fieldLink RX5 29 "SparkBoardsModel" "lampKept" "[I", Cond.methodLink RX5 48 yX5_at, Cond.static yX5_at, Cond.code yX5_at cX5_at 2 (some .int), Cond.methodLink RX5 101 yX5_step, Cond.instanceMethod yX5_step, Cond.selects RX5 yX5_step yX5_step, Cond.code yX5_step cX5_step 2 none, Cond.fieldLink RX5 23 "SparkBoardsModel" "other" "[I", Cond.methodLink RX5 58 yX5_cell, Cond.instanceMethod yX5_cell, Cond.selects RX5 yX5_cell yX5_cell, Cond.code yX5_cell cX5_cell 2 (some .int), Cond.methodLink RX5 62 yX5_next, Cond.instanceMethod yX5_next, Cond.selects RX5 yX5_next yX5_next, Cond.code yX5_next cX5_next 3 (some .int), Cond.methodLink RX5 55 yX5_around, Cond.instanceMethod yX5_around, Cond.selects RX5 yX5_around yX5_around, Cond.code yX5_around cX5_around 8 (some .int), Cond.fieldLink RX5 52 "SparkBoardsModel" "STEP" "[I"]
def wsX5_until_r3 : List Cond := [Cond.methodLink RX5 147 yX5_bringBack, Cond.instanceMethod yX5_bringBack, Cond.selects RX5 yX5_bringBack yX5_bringBack, Cond.code yX5_bringBack cX5_bringBack 1 none]
def wsX5_until : List Cond := .code yX5_until cX5_until 4 (some .int) :: ((wsX5_until_r1 ++ (wsX5_until_r2 ++ wsX5_until_r3)) ++ wsX50)
def wsX5_foresee_r1 : List Cond := [Cond.fieldLink RX5 41 "SparkBoardsModel" "thrown" "I", Cond.methodLink RX5 44 yX5_isIn, Cond.static yX5_isIn, Cond.initialized RX5, Cond.code yX5_isIn cX5_isIn 3 (some .boolean), Cond.methodLink RX5 74 yX5_fail, Cond.instanceMethod yX5_fail, Cond.selects RX5 yX5_fail yX5_fail, Cond.code yX5_fail cX5_fail 2 (some .int), Cond.methodLink RX5 140 yX5_keep, Cond.instanceMethod yX5_keep, Cond.selects RX5 yX5_keep yX5_keep, Cond.code yX5_keep cX5_keep 1 none, Cond.fieldLink RX5 16 "SparkBoardsModel" "now" "[I", Cond.fieldLink RX5 20 "SparkBoardsModel" "kept" "[I", Cond.methodLink RX5 68 arraycopyName, Cond.native arraycopyName, Cond.static arraycopyName, Cond.initialized "java/lang/System", Cond.fieldLink RX5 26 "SparkBoardsModel" "lampRow" "[I", Cond.fieldLink RX5 29 "SparkBoardsModel" "lampKept" "[I", Cond.methodLink RX5 101 yX5_step, Cond.instanceMethod yX5_step, Cond.selects RX5 yX5_step yX5_step]
def wsX5_foresee_r2 : List Cond := [Cond.code yX5_step cX5_step 2 none, Cond.fieldLink RX5 7 "SparkBoardsModel" "columns" "I", Cond.fieldLink RX5 13 "SparkBoardsModel" "rows" "I", Cond.fieldLink RX5 23 "SparkBoardsModel" "other" "[I", Cond.methodLink RX5 58 yX5_cell, Cond.instanceMethod yX5_cell, Cond.selects RX5 yX5_cell yX5_cell, Cond.code yX5_cell cX5_cell 2 (some .int), Cond.methodLink RX5 48 yX5_at, Cond.static yX5_at, Cond.code yX5_at cX5_at 2 (some .int), Cond.methodLink RX5 62 yX5_next, Cond.instanceMethod yX5_next, Cond.selects RX5 yX5_next yX5_next, Cond.code yX5_next cX5_next 3 (some .int), Cond.methodLink RX5 55 yX5_around, Cond.instanceMethod yX5_around, Cond.selects RX5 yX5_around yX5_around, Cond.code yX5_around cX5_around 8 (some .int), Cond.fieldLink RX5 52 "SparkBoardsModel" "STEP" "[I", Cond.methodLink RX5 107 yX5_light, Cond.instanceMethod yX5_light, Cond.selects RX5 yX5_light yX5_light, Cond.code yX5_light cX5_light 3 none]
def wsX5_foresee_r3 : List Cond := [Cond.fieldLink RX5 65 "SparkBoardsModel" "lamps" "I", Cond.methodLink RX5 137 yX5_counted, Cond.instanceMethod yX5_counted, Cond.selects RX5 yX5_counted yX5_counted, Cond.code yX5_counted cX5_counted 2 (some .int), Cond.fieldLink RX5 104 "SparkBoardsModel" "steps" "I", Cond.methodLink RX5 98 yX5_cells, Cond.instanceMethod yX5_cells, Cond.selects RX5 yX5_cells yX5_cells, Cond.code yX5_cells cX5_cells 4 (some .int), Cond.methodLink RX5 129 yX5_pieces, Cond.instanceMethod yX5_pieces, Cond.selects RX5 yX5_pieces yX5_pieces, Cond.code yX5_pieces cX5_pieces 8 (some .int), Cond.methodLink RX5 126 Lib.Math.max.name, Cond.static Lib.Math.max.name, Cond.initialized "java/lang/Math", Cond.code Lib.Math.max.name Lib.Math.max.code 2 (some .int), Cond.fieldLink RX5 35 "SparkBoardsModel" "marks" "[I", Cond.methodLink RX5 114 yX5_spread, Cond.instanceMethod yX5_spread, Cond.selects RX5 yX5_spread yX5_spread, Cond.code yX5_spread cX5_spread 9 (some .int), Cond.fieldLink RX5 38 "SparkBoardsModel" "line" "[I"]
def wsX5_foresee_r4 : List Cond := [Cond.methodLink RX5 133 yX5_lit, Cond.instanceMethod yX5_lit, Cond.selects RX5 yX5_lit yX5_lit, Cond.code yX5_lit cX5_lit 3 (some .int), Cond.methodLink RX5 147 yX5_bringBack, Cond.instanceMethod yX5_bringBack, Cond.selects RX5 yX5_bringBack yX5_bringBack, Cond.code yX5_bringBack cX5_bringBack 1 none]
def wsX5_foresee : List Cond := .code yX5_foresee cX5_foresee 4 (some .int) :: ((wsX5_foresee_r1 ++ (wsX5_foresee_r2 ++ (wsX5_foresee_r3 ++ wsX5_foresee_r4))) ++ wsX50)
def wsX5_heads_r1 : List Cond := [Cond.methodLink RX5 101 yX5_step, Cond.instanceMethod yX5_step, Cond.selects RX5 yX5_step yX5_step, Cond.initialized RX5, Cond.code yX5_step cX5_step 2 none, Cond.fieldLink RX5 7 "SparkBoardsModel" "columns" "I", Cond.fieldLink RX5 13 "SparkBoardsModel" "rows" "I", Cond.fieldLink RX5 23 "SparkBoardsModel" "other" "[I", Cond.fieldLink RX5 16 "SparkBoardsModel" "now" "[I", Cond.methodLink RX5 58 yX5_cell, Cond.instanceMethod yX5_cell, Cond.selects RX5 yX5_cell yX5_cell, Cond.code yX5_cell cX5_cell 2 (some .int), Cond.methodLink RX5 48 yX5_at, Cond.static yX5_at, Cond.code yX5_at cX5_at 2 (some .int), Cond.methodLink RX5 62 yX5_next, Cond.instanceMethod yX5_next, Cond.selects RX5 yX5_next yX5_next, Cond.code yX5_next cX5_next 3 (some .int), Cond.methodLink RX5 55 yX5_around, Cond.instanceMethod yX5_around, Cond.selects RX5 yX5_around yX5_around, Cond.code yX5_around cX5_around 8 (some .int)]
def wsX5_heads_r2 : List Cond := [Cond.fieldLink RX5 52 "SparkBoardsModel" "STEP" "[I", Cond.methodLink RX5 98 yX5_cells, Cond.instanceMethod yX5_cells, Cond.selects RX5 yX5_cells yX5_cells, Cond.code yX5_cells cX5_cells 4 (some .int), Cond.methodLink RX5 147 yX5_bringBack, Cond.instanceMethod yX5_bringBack, Cond.selects RX5 yX5_bringBack yX5_bringBack, Cond.code yX5_bringBack cX5_bringBack 1 none, Cond.fieldLink RX5 20 "SparkBoardsModel" "kept" "[I", Cond.methodLink RX5 68 arraycopyName, Cond.native arraycopyName, Cond.static arraycopyName, Cond.initialized "java/lang/System", Cond.fieldLink RX5 29 "SparkBoardsModel" "lampKept" "[I", Cond.fieldLink RX5 26 "SparkBoardsModel" "lampRow" "[I"]
def wsX5_heads : List Cond := .code yX5_heads cX5_heads 3 (some .int) :: ((wsX5_heads_r1 ++ wsX5_heads_r2) ++ wsX50)
def wsX5_advise_r1 : List Cond := [Cond.fieldLink RX5 41 "SparkBoardsModel" "thrown" "I", Cond.fieldLink RX5 7 "SparkBoardsModel" "columns" "I", Cond.fieldLink RX5 13 "SparkBoardsModel" "rows" "I", Cond.fieldLink RX5 16 "SparkBoardsModel" "now" "[I", Cond.methodLink RX5 44 yX5_isIn, Cond.static yX5_isIn, Cond.initialized RX5, Cond.code yX5_isIn cX5_isIn 3 (some .boolean), Cond.methodLink RX5 74 yX5_fail, Cond.instanceMethod yX5_fail, Cond.selects RX5 yX5_fail yX5_fail, Cond.code yX5_fail cX5_fail 2 (some .int), Cond.methodLink RX5 140 yX5_keep, Cond.instanceMethod yX5_keep, Cond.selects RX5 yX5_keep yX5_keep, Cond.code yX5_keep cX5_keep 1 none, Cond.fieldLink RX5 20 "SparkBoardsModel" "kept" "[I", Cond.methodLink RX5 68 arraycopyName, Cond.native arraycopyName, Cond.static arraycopyName, Cond.initialized "java/lang/System", Cond.fieldLink RX5 26 "SparkBoardsModel" "lampRow" "[I", Cond.fieldLink RX5 29 "SparkBoardsModel" "lampKept" "[I", Cond.methodLink RX5 150 yX5_heads]
def wsX5_advise_r2 : List Cond := [Cond.instanceMethod yX5_heads, Cond.selects RX5 yX5_heads yX5_heads, Cond.code yX5_heads cX5_heads 3 (some .int), Cond.methodLink RX5 101 yX5_step, Cond.instanceMethod yX5_step, Cond.selects RX5 yX5_step yX5_step, Cond.code yX5_step cX5_step 2 none, Cond.fieldLink RX5 23 "SparkBoardsModel" "other" "[I", Cond.methodLink RX5 58 yX5_cell, Cond.instanceMethod yX5_cell, Cond.selects RX5 yX5_cell yX5_cell, Cond.code yX5_cell cX5_cell 2 (some .int), Cond.methodLink RX5 48 yX5_at, Cond.static yX5_at, Cond.code yX5_at cX5_at 2 (some .int), Cond.methodLink RX5 62 yX5_next, Cond.instanceMethod yX5_next, Cond.selects RX5 yX5_next yX5_next, Cond.code yX5_next cX5_next 3 (some .int), Cond.methodLink RX5 55 yX5_around, Cond.instanceMethod yX5_around, Cond.selects RX5 yX5_around yX5_around, Cond.code yX5_around cX5_around 8 (some .int), Cond.fieldLink RX5 52 "SparkBoardsModel" "STEP" "[I"]
def wsX5_advise_r3 : List Cond := [Cond.methodLink RX5 98 yX5_cells, Cond.instanceMethod yX5_cells, Cond.selects RX5 yX5_cells yX5_cells, Cond.code yX5_cells cX5_cells 4 (some .int), Cond.methodLink RX5 147 yX5_bringBack, Cond.instanceMethod yX5_bringBack, Cond.selects RX5 yX5_bringBack yX5_bringBack, Cond.code yX5_bringBack cX5_bringBack 1 none]
def wsX5_advise : List Cond := .code yX5_advise cX5_advise 6 (some .int) :: ((wsX5_advise_r1 ++ (wsX5_advise_r2 ++ wsX5_advise_r3)) ++ wsX50)
def wsX5_mean : List Cond := .code yX5_mean cX5_mean 1 (some .double) :: ([.fieldLink RX5 41 "SparkBoardsModel" "thrown" "I", .fieldLink RX5 104 "SparkBoardsModel" "steps" "I", .fieldLink RX5 111 "SparkBoardsModel" "added" "I"] ++ wsX50)
def wsX5_digest_r1 : List Cond := [Cond.fieldLink RX5 41 "SparkBoardsModel" "thrown" "I", Cond.constantLong RX5 153 (1723), Cond.constantLong RX5 155 (31), Cond.fieldLink RX5 7 "SparkBoardsModel" "columns" "I", Cond.fieldLink RX5 13 "SparkBoardsModel" "rows" "I", Cond.fieldLink RX5 65 "SparkBoardsModel" "lamps" "I", Cond.fieldLink RX5 111 "SparkBoardsModel" "added" "I", Cond.methodLink RX5 137 yX5_counted, Cond.instanceMethod yX5_counted, Cond.selects RX5 yX5_counted yX5_counted, Cond.initialized RX5, Cond.code yX5_counted cX5_counted 2 (some .int), Cond.fieldLink RX5 104 "SparkBoardsModel" "steps" "I", Cond.methodLink RX5 98 yX5_cells, Cond.instanceMethod yX5_cells, Cond.selects RX5 yX5_cells yX5_cells, Cond.code yX5_cells cX5_cells 4 (some .int), Cond.fieldLink RX5 16 "SparkBoardsModel" "now" "[I", Cond.methodLink RX5 58 yX5_cell, Cond.instanceMethod yX5_cell, Cond.selects RX5 yX5_cell yX5_cell, Cond.code yX5_cell cX5_cell 2 (some .int), Cond.methodLink RX5 48 yX5_at, Cond.static yX5_at]
def wsX5_digest_r2 : List Cond := [Cond.code yX5_at cX5_at 2 (some .int), Cond.methodLink RX5 129 yX5_pieces, Cond.instanceMethod yX5_pieces, Cond.selects RX5 yX5_pieces yX5_pieces, Cond.code yX5_pieces cX5_pieces 8 (some .int), Cond.methodLink RX5 126 Lib.Math.max.name, Cond.static Lib.Math.max.name, Cond.initialized "java/lang/Math", Cond.code Lib.Math.max.name Lib.Math.max.code 2 (some .int), Cond.fieldLink RX5 35 "SparkBoardsModel" "marks" "[I", Cond.methodLink RX5 114 yX5_spread, Cond.instanceMethod yX5_spread, Cond.selects RX5 yX5_spread yX5_spread, Cond.code yX5_spread cX5_spread 9 (some .int), Cond.fieldLink RX5 38 "SparkBoardsModel" "line" "[I", Cond.fieldLink RX5 52 "SparkBoardsModel" "STEP" "[I", Cond.methodLink RX5 133 yX5_lit, Cond.instanceMethod yX5_lit, Cond.selects RX5 yX5_lit yX5_lit, Cond.code yX5_lit cX5_lit 3 (some .int), Cond.fieldLink RX5 26 "SparkBoardsModel" "lampRow" "[I", Cond.methodLink RX5 120 yX5_cellTold, Cond.instanceMethod yX5_cellTold, Cond.selects RX5 yX5_cellTold yX5_cellTold]
def wsX5_digest_r3 : List Cond := [Cond.code yX5_cellTold cX5_cellTold 3 (some .int), Cond.methodLink RX5 55 yX5_around, Cond.instanceMethod yX5_around, Cond.selects RX5 yX5_around yX5_around, Cond.code yX5_around cX5_around 8 (some .int), Cond.methodLink RX5 62 yX5_next, Cond.instanceMethod yX5_next, Cond.selects RX5 yX5_next yX5_next, Cond.code yX5_next cX5_next 3 (some .int), Cond.methodLink RX5 117 yX5_piece, Cond.instanceMethod yX5_piece, Cond.selects RX5 yX5_piece yX5_piece, Cond.code yX5_piece cX5_piece 2 (some .int), Cond.methodLink RX5 123 yX5_lampTold, Cond.instanceMethod yX5_lampTold, Cond.selects RX5 yX5_lampTold yX5_lampTold, Cond.code yX5_lampTold cX5_lampTold 4 (some .int)]
def wsX5_digest : List Cond := .code yX5_digest cX5_digest 5 (some .long) :: ((wsX5_digest_r1 ++ (wsX5_digest_r2 ++ wsX5_digest_r3)) ++ wsX50)
def wsJ9_abs_0f7a4 : List Cond := .code yJ9_abs_0f7a4 cJ9_abs_0f7a4 1 (some .int) :: ([])
def wsJ9_max_7cf53 : List Cond := .code yJ9_max_7cf53 cJ9_max_7cf53 2 (some .int) :: ([])
def wsL_setBoard_r1 : List Cond := [Cond.classLink RL 13 "java/lang/IllegalArgumentException", Cond.methodLink RL 7 yX4_setBoard, Cond.instanceMethod yX4_setBoard, Cond.selects RX4 yX4_setBoard yX4_setBoard, Cond.initialized RX4, Cond.code yX4_setBoard cX4_setBoard 3 (some .int), Cond.classLink RX4 54 "java/lang/IllegalArgumentException", Cond.initialized "java/lang/IllegalArgumentException", Cond.fieldLink RX4 14 "SparkBoards" "board" "LSparkBoards$Board;", Cond.fieldLink RX4 31 "SparkBoards" "lamps" "LSparkBoards$Lamps;", Cond.methodLink RX4 50 yX4_isSide, Cond.static yX4_isSide, Cond.code yX4_isSide cX4_isSide 1 (some .boolean), Cond.methodLink RX4 61 yX0_clear, Cond.instanceMethod yX0_clear, Cond.selects RX0 yX0_clear yX0_clear, Cond.initialized RX0, Cond.code yX0_clear cX0_clear 3 none, Cond.fieldLink RX0 9 "SparkBoards$Board" "columns" "I", Cond.fieldLink RX0 15 "SparkBoards$Board" "rows" "I", Cond.fieldLink RX0 18 "SparkBoards$Board" "kinds" "[I", Cond.methodLink RX0 25 yJ7_fill_53178, Cond.static yJ7_fill_53178, Cond.initialized RJ7]
def wsL_setBoard_r2 : List Cond := [Cond.code yJ7_fill_53178 cJ7_fill_53178 4 none, Cond.methodLink RX4 64 yX1_clear, Cond.instanceMethod yX1_clear, Cond.selects RX1 yX1_clear yX1_clear, Cond.initialized RX1, Cond.code yX1_clear cX1_clear 1 none, Cond.fieldLink RX1 9 "SparkBoards$Lamps" "many" "I", Cond.methodLink RX4 66 yX0_size, Cond.instanceMethod yX0_size, Cond.selects RX0 yX0_size yX0_size, Cond.code yX0_size cX0_size 1 (some .int)]
def wsL_setBoard : List Cond := .codeWith yL_setBoard cL_setBoard 5 (some .int) [(0, 10, 13, 13)] :: ((wsL_setBoard_r1 ++ wsL_setBoard_r2) ++ wsX40 ++ wsX00 ++ wsX10 ++ (vx_atS RX4 58 "java/lang/IllegalArgumentException" ["java/lang/RuntimeException", "java/lang/Exception"]).filter goodWord)
def wsL_set_r1 : List Cond := [Cond.classLink RL 19 "java/lang/IndexOutOfBoundsException", Cond.classLink RL 13 "java/lang/IllegalArgumentException", Cond.methodLink RL 15 yX4_set, Cond.instanceMethod yX4_set, Cond.selects RX4 yX4_set yX4_set, Cond.initialized RX4, Cond.code yX4_set cX4_set 6 (some .int), Cond.classLink RX4 74 "java/lang/IndexOutOfBoundsException", Cond.initialized "java/lang/IndexOutOfBoundsException", Cond.classLink RX4 54 "java/lang/IllegalArgumentException", Cond.initialized "java/lang/IllegalArgumentException", Cond.fieldLink RX4 14 "SparkBoards" "board" "LSparkBoards$Board;", Cond.methodLink RX4 70 yX0_cell, Cond.instanceMethod yX0_cell, Cond.selects RX0 yX0_cell yX0_cell, Cond.initialized RX0, Cond.code yX0_cell cX0_cell 3 (some .int), Cond.fieldLink RX0 9 "SparkBoards$Board" "columns" "I", Cond.fieldLink RX0 15 "SparkBoards$Board" "rows" "I", Cond.methodLink RX4 81 yX0_kind, Cond.instanceMethod yX0_kind, Cond.selects RX0 yX0_kind yX0_kind, Cond.code yX0_kind cX0_kind 2 (some .int), Cond.fieldLink RX0 18 "SparkBoards$Board" "kinds" "[I"]
def wsL_set_r2 : List Cond := [Cond.methodLink RX4 85 yX0_put, Cond.instanceMethod yX0_put, Cond.selects RX0 yX0_put yX0_put, Cond.code yX0_put cX0_put 3 none]
def wsL_set : List Cond := .codeWith yL_set cL_set 6 (some .int) [(0, 12, 15, 19), (0, 12, 19, 13)] :: ((wsL_set_r1 ++ wsL_set_r2) ++ wsX40 ++ wsX00 ++ (vx_atS RX4 78 "java/lang/IndexOutOfBoundsException" ["java/lang/RuntimeException", "java/lang/Exception"]).filter goodWord ++ (vx_atS RX4 58 "java/lang/IllegalArgumentException" ["java/lang/RuntimeException", "java/lang/Exception"]).filter goodWord)
def wsL_line_r1 : List Cond := [Cond.classLink RL 19 "java/lang/IndexOutOfBoundsException", Cond.classLink RL 13 "java/lang/IllegalArgumentException", Cond.methodLink RL 21 yX4_line, Cond.instanceMethod yX4_line, Cond.selects RX4 yX4_line yX4_line, Cond.initialized RX4, Cond.code yX4_line cX4_line 12 (some .int), Cond.classLink RX4 74 "java/lang/IndexOutOfBoundsException", Cond.initialized "java/lang/IndexOutOfBoundsException", Cond.classLink RX4 54 "java/lang/IllegalArgumentException", Cond.initialized "java/lang/IllegalArgumentException", Cond.fieldLink RX4 14 "SparkBoards" "board" "LSparkBoards$Board;", Cond.methodLink RX4 88 Lib.Math.abs.name, Cond.static Lib.Math.abs.name, Cond.initialized "java/lang/Math", Cond.code Lib.Math.abs.name Lib.Math.abs.code 1 (some .int), Cond.methodLink RX4 100 Lib.Math.max.name, Cond.static Lib.Math.max.name, Cond.code Lib.Math.max.name Lib.Math.max.code 2 (some .int), Cond.methodLink RX4 70 yX0_cell, Cond.instanceMethod yX0_cell, Cond.selects RX0 yX0_cell yX0_cell, Cond.initialized RX0, Cond.code yX0_cell cX0_cell 3 (some .int)]
def wsL_line_r2 : List Cond := [Cond.fieldLink RX0 9 "SparkBoards$Board" "columns" "I", Cond.fieldLink RX0 15 "SparkBoards$Board" "rows" "I", Cond.methodLink RX4 95 yJ6_compare_7cf53, Cond.static yJ6_compare_7cf53, Cond.initialized RJ6, Cond.code yJ6_compare_7cf53 cJ6_compare_7cf53 2 (some .int), Cond.methodLink RX4 103 yX4_lay, Cond.instanceMethod yX4_lay, Cond.selects RX4 yX4_lay yX4_lay, Cond.code yX4_lay cX4_lay 4 (some .int), Cond.methodLink RX4 81 yX0_kind, Cond.instanceMethod yX0_kind, Cond.selects RX0 yX0_kind yX0_kind, Cond.code yX0_kind cX0_kind 2 (some .int), Cond.fieldLink RX0 18 "SparkBoards$Board" "kinds" "[I", Cond.methodLink RX4 85 yX0_put, Cond.instanceMethod yX0_put, Cond.selects RX0 yX0_put yX0_put, Cond.code yX0_put cX0_put 3 none]
def wsL_line : List Cond := .codeWith yL_line cL_line 7 (some .int) [(0, 14, 17, 19), (0, 14, 21, 13)] :: ((wsL_line_r1 ++ wsL_line_r2) ++ wsX40 ++ wsX00 ++ (vx_atS RX4 78 "java/lang/IndexOutOfBoundsException" ["java/lang/RuntimeException", "java/lang/Exception"]).filter goodWord ++ (vx_atS RX4 58 "java/lang/IllegalArgumentException" ["java/lang/RuntimeException", "java/lang/Exception"]).filter goodWord)
def wsL_ring_r1 : List Cond := [Cond.classLink RL 13 "java/lang/IllegalArgumentException", Cond.classLink RL 19 "java/lang/IndexOutOfBoundsException", Cond.methodLink RL 25 yX4_ring, Cond.instanceMethod yX4_ring, Cond.selects RX4 yX4_ring yX4_ring, Cond.initialized RX4, Cond.code yX4_ring cX4_ring 7 (some .int), Cond.classLink RX4 54 "java/lang/IllegalArgumentException", Cond.initialized "java/lang/IllegalArgumentException", Cond.classLink RX4 74 "java/lang/IndexOutOfBoundsException", Cond.initialized "java/lang/IndexOutOfBoundsException", Cond.fieldLink RX4 14 "SparkBoards" "board" "LSparkBoards$Board;", Cond.methodLink RX4 108 yX0_holds, Cond.instanceMethod yX0_holds, Cond.selects RX0 yX0_holds yX0_holds, Cond.initialized RX0, Cond.code yX0_holds cX0_holds 5 (some .boolean), Cond.fieldLink RX0 9 "SparkBoards$Board" "columns" "I", Cond.fieldLink RX0 15 "SparkBoards$Board" "rows" "I", Cond.methodLink RX0 37 yX0_cell, Cond.instanceMethod yX0_cell, Cond.selects RX0 yX0_cell yX0_cell, Cond.code yX0_cell cX0_cell 3 (some .int), Cond.methodLink RX4 103 yX4_lay]
def wsL_ring_r2 : List Cond := [Cond.instanceMethod yX4_lay, Cond.selects RX4 yX4_lay yX4_lay, Cond.code yX4_lay cX4_lay 4 (some .int), Cond.methodLink RX4 70 yX0_cell, Cond.methodLink RX4 81 yX0_kind, Cond.instanceMethod yX0_kind, Cond.selects RX0 yX0_kind yX0_kind, Cond.code yX0_kind cX0_kind 2 (some .int), Cond.fieldLink RX0 18 "SparkBoards$Board" "kinds" "[I", Cond.methodLink RX4 85 yX0_put, Cond.instanceMethod yX0_put, Cond.selects RX0 yX0_put yX0_put, Cond.code yX0_put cX0_put 3 none]
def wsL_ring : List Cond := .codeWith yL_ring cL_ring 7 (some .int) [(0, 14, 17, 13), (0, 14, 21, 19)] :: ((wsL_ring_r1 ++ wsL_ring_r2) ++ wsX40 ++ wsX00 ++ (vx_atS RX4 58 "java/lang/IllegalArgumentException" ["java/lang/RuntimeException", "java/lang/Exception"]).filter goodWord ++ (vx_atS RX4 78 "java/lang/IndexOutOfBoundsException" ["java/lang/RuntimeException", "java/lang/Exception"]).filter goodWord)
def wsL_stamp_r1 : List Cond := [Cond.classLink RL 19 "java/lang/IndexOutOfBoundsException", Cond.methodLink RL 28 yX4_stamp, Cond.instanceMethod yX4_stamp, Cond.selects RX4 yX4_stamp yX4_stamp, Cond.initialized RX4, Cond.code yX4_stamp cX4_stamp 10 (some .int), Cond.classLink RX4 74 "java/lang/IndexOutOfBoundsException", Cond.initialized "java/lang/IndexOutOfBoundsException", Cond.fieldLink RX4 14 "SparkBoards" "board" "LSparkBoards$Board;", Cond.fieldLink RX4 121 "SparkBoards" "STAMPED" "[I", Cond.methodLink RX4 108 yX0_holds, Cond.instanceMethod yX0_holds, Cond.selects RX0 yX0_holds yX0_holds, Cond.initialized RX0, Cond.code yX0_holds cX0_holds 5 (some .boolean), Cond.fieldLink RX0 9 "SparkBoards$Board" "columns" "I", Cond.fieldLink RX0 15 "SparkBoards$Board" "rows" "I", Cond.methodLink RX0 37 yX0_cell, Cond.instanceMethod yX0_cell, Cond.selects RX0 yX0_cell yX0_cell, Cond.code yX0_cell cX0_cell 3 (some .int), Cond.methodLink RX4 118 yX4_turned, Cond.static yX4_turned, Cond.code yX4_turned cX4_turned 6 (some .int)]
def wsL_stamp_r2 : List Cond := [Cond.methodLink RX4 70 yX0_cell, Cond.methodLink RX4 81 yX0_kind, Cond.instanceMethod yX0_kind, Cond.selects RX0 yX0_kind yX0_kind, Cond.code yX0_kind cX0_kind 2 (some .int), Cond.fieldLink RX0 18 "SparkBoards$Board" "kinds" "[I", Cond.methodLink RX4 85 yX0_put, Cond.instanceMethod yX0_put, Cond.selects RX0 yX0_put yX0_put, Cond.code yX0_put cX0_put 3 none]
def wsL_stamp : List Cond := .codeWith yL_stamp cL_stamp 7 (some .int) [(0, 14, 17, 19)] :: ((wsL_stamp_r1 ++ wsL_stamp_r2) ++ wsX40 ++ wsX00 ++ (vx_atS RX4 78 "java/lang/IndexOutOfBoundsException" ["java/lang/RuntimeException", "java/lang/Exception"]).filter goodWord)
def wsL_spark_r1 : List Cond := [Cond.classLink RL 19 "java/lang/IndexOutOfBoundsException", Cond.classLink RL 34 "java/lang/IllegalStateException", Cond.methodLink RL 31 yX4_spark, Cond.instanceMethod yX4_spark, Cond.selects RX4 yX4_spark yX4_spark, Cond.initialized RX4, Cond.code yX4_spark cX4_spark 6 (some .int), Cond.classLink RX4 74 "java/lang/IndexOutOfBoundsException", Cond.initialized "java/lang/IndexOutOfBoundsException", Cond.classLink RX4 133 "java/lang/IllegalStateException", Cond.initialized "java/lang/IllegalStateException", Cond.fieldLink RX4 14 "SparkBoards" "board" "LSparkBoards$Board;", Cond.fieldLink RX4 127 "SparkBoards" "RIGHT" "[I", Cond.fieldLink RX4 130 "SparkBoards" "DOWN" "[I", Cond.methodLink RX4 70 yX0_cell, Cond.instanceMethod yX0_cell, Cond.selects RX0 yX0_cell yX0_cell, Cond.initialized RX0, Cond.code yX0_cell cX0_cell 3 (some .int), Cond.fieldLink RX0 9 "SparkBoards$Board" "columns" "I", Cond.fieldLink RX0 15 "SparkBoards$Board" "rows" "I", Cond.methodLink RX4 81 yX0_kind, Cond.instanceMethod yX0_kind, Cond.selects RX0 yX0_kind yX0_kind]
def wsL_spark_r2 : List Cond := [Cond.code yX0_kind cX0_kind 2 (some .int), Cond.fieldLink RX0 18 "SparkBoards$Board" "kinds" "[I", Cond.methodLink RX4 85 yX0_put, Cond.instanceMethod yX0_put, Cond.selects RX0 yX0_put yX0_put, Cond.code yX0_put cX0_put 3 none, Cond.methodLink RX4 138 yX0_many, Cond.instanceMethod yX0_many, Cond.selects RX0 yX0_many yX0_many, Cond.code yX0_many cX0_many 4 (some .int), Cond.methodLink RX0 41 yX0_size, Cond.instanceMethod yX0_size, Cond.selects RX0 yX0_size yX0_size, Cond.code yX0_size cX0_size 1 (some .int), Cond.methodLink RX0 45 yX0_kind]
def wsL_spark : List Cond := .codeWith yL_spark cL_spark 6 (some .int) [(0, 12, 15, 19), (0, 12, 19, 34)] :: ((wsL_spark_r1 ++ wsL_spark_r2) ++ wsX40 ++ wsX00 ++ (vx_atS RX4 78 "java/lang/IndexOutOfBoundsException" ["java/lang/RuntimeException", "java/lang/Exception"]).filter goodWord ++ (vx_atS RX4 137 "java/lang/IllegalStateException" ["java/lang/RuntimeException", "java/lang/Exception"]).filter goodWord)
def wsL_lamp_r1 : List Cond := [Cond.classLink RL 19 "java/lang/IndexOutOfBoundsException", Cond.classLink RL 34 "java/lang/IllegalStateException", Cond.methodLink RL 36 yX4_lamp, Cond.instanceMethod yX4_lamp, Cond.selects RX4 yX4_lamp yX4_lamp, Cond.initialized RX4, Cond.code yX4_lamp cX4_lamp 3 (some .int), Cond.classLink RX4 74 "java/lang/IndexOutOfBoundsException", Cond.initialized "java/lang/IndexOutOfBoundsException", Cond.classLink RX4 133 "java/lang/IllegalStateException", Cond.initialized "java/lang/IllegalStateException", Cond.fieldLink RX4 14 "SparkBoards" "board" "LSparkBoards$Board;", Cond.fieldLink RX4 31 "SparkBoards" "lamps" "LSparkBoards$Lamps;", Cond.methodLink RX4 70 yX0_cell, Cond.instanceMethod yX0_cell, Cond.selects RX0 yX0_cell yX0_cell, Cond.initialized RX0, Cond.code yX0_cell cX0_cell 3 (some .int), Cond.fieldLink RX0 9 "SparkBoards$Board" "columns" "I", Cond.fieldLink RX0 15 "SparkBoards$Board" "rows" "I", Cond.methodLink RX4 141 yX1_many, Cond.instanceMethod yX1_many, Cond.selects RX1 yX1_many yX1_many, Cond.initialized RX1]
def wsL_lamp_r2 : List Cond := [Cond.code yX1_many cX1_many 1 (some .int), Cond.fieldLink RX1 9 "SparkBoards$Lamps" "many" "I", Cond.methodLink RX4 145 yX1_add, Cond.instanceMethod yX1_add, Cond.selects RX1 yX1_add yX1_add, Cond.code yX1_add cX1_add 3 (some .int), Cond.fieldLink RX1 15 "SparkBoards$Lamps" "columns" "[I", Cond.fieldLink RX1 19 "SparkBoards$Lamps" "rows" "[I", Cond.fieldLink RX1 22 "SparkBoards$Lamps" "lit" "[I", Cond.fieldLink RX1 25 "SparkBoards$Lamps" "latest" "[I"]
def wsL_lamp : List Cond := .codeWith yL_lamp cL_lamp 5 (some .int) [(0, 10, 13, 19), (0, 10, 17, 34)] :: ((wsL_lamp_r1 ++ wsL_lamp_r2) ++ wsX40 ++ wsX00 ++ wsX10 ++ (vx_atS RX4 78 "java/lang/IndexOutOfBoundsException" ["java/lang/RuntimeException", "java/lang/Exception"]).filter goodWord ++ (vx_atS RX4 137 "java/lang/IllegalStateException" ["java/lang/RuntimeException", "java/lang/Exception"]).filter goodWord)
def wsL_pass_r1 : List Cond := [Cond.classLink RL 13 "java/lang/IllegalArgumentException", Cond.methodLink RL 39 yX4_pass, Cond.instanceMethod yX4_pass, Cond.selects RX4 yX4_pass yX4_pass, Cond.initialized RX4, Cond.code yX4_pass cX4_pass 4 (some .int), Cond.classLink RX4 54 "java/lang/IllegalArgumentException", Cond.initialized "java/lang/IllegalArgumentException", Cond.fieldLink RX4 14 "SparkBoards" "board" "LSparkBoards$Board;", Cond.fieldLink RX4 42 "SparkBoards" "stepsGone" "I", Cond.fieldLink RX4 31 "SparkBoards" "lamps" "LSparkBoards$Lamps;", Cond.fieldLink RX4 46 "SparkBoards" "headsOfAllSteps" "J", Cond.methodLink RX4 150 yX0_step, Cond.instanceMethod yX0_step, Cond.selects RX0 yX0_step yX0_step, Cond.initialized RX0, Cond.code yX0_step cX0_step 2 none, Cond.fieldLink RX0 18 "SparkBoards$Board" "kinds" "[I", Cond.fieldLink RX0 22 "SparkBoards$Board" "headsBeside" "[I", Cond.methodLink RX0 59 yX0_countHeadsBeside, Cond.instanceMethod yX0_countHeadsBeside, Cond.selects RX0 yX0_countHeadsBeside yX0_countHeadsBeside, Cond.code yX0_countHeadsBeside cX0_countHeadsBeside 3 none, Cond.fieldLink RX0 15 "SparkBoards$Board" "rows" "I"]
def wsL_pass_r2 : List Cond := [Cond.fieldLink RX0 9 "SparkBoards$Board" "columns" "I", Cond.methodLink RX0 25 yJ7_fill_53178, Cond.static yJ7_fill_53178, Cond.initialized RJ7, Cond.code yJ7_fill_53178 cJ7_fill_53178 4 none, Cond.methodLink RX0 37 yX0_cell, Cond.instanceMethod yX0_cell, Cond.selects RX0 yX0_cell yX0_cell, Cond.code yX0_cell cX0_cell 3 (some .int), Cond.methodLink RX0 45 yX0_kind, Cond.instanceMethod yX0_kind, Cond.selects RX0 yX0_kind yX0_kind, Cond.code yX0_kind cX0_kind 2 (some .int), Cond.methodLink RX0 65 yX0_tellNeighbours, Cond.instanceMethod yX0_tellNeighbours, Cond.selects RX0 yX0_tellNeighbours yX0_tellNeighbours, Cond.code yX0_tellNeighbours cX0_tellNeighbours 5 none, Cond.methodLink RX0 49 yX0_neighbour, Cond.instanceMethod yX0_neighbour, Cond.selects RX0 yX0_neighbour yX0_neighbour, Cond.code yX0_neighbour cX0_neighbour 4 (some .int), Cond.methodLink RX0 41 yX0_size, Cond.instanceMethod yX0_size, Cond.selects RX0 yX0_size yX0_size]
def wsL_pass_r3 : List Cond := [Cond.code yX0_size cX0_size 1 (some .int), Cond.methodLink RX0 62 yX0_next, Cond.static yX0_next, Cond.code yX0_next cX0_next 2 (some .int), Cond.methodLink RX4 153 yX1_light, Cond.instanceMethod yX1_light, Cond.selects RX1 yX1_light yX1_light, Cond.initialized RX1, Cond.code yX1_light cX1_light 4 none, Cond.fieldLink RX1 9 "SparkBoards$Lamps" "many" "I", Cond.fieldLink RX1 22 "SparkBoards$Lamps" "lit" "[I", Cond.fieldLink RX1 25 "SparkBoards$Lamps" "latest" "[I", Cond.methodLink RX1 32 yX1_isAlight, Cond.instanceMethod yX1_isAlight, Cond.selects RX1 yX1_isAlight yX1_isAlight, Cond.code yX1_isAlight cX1_isAlight 3 (some .boolean), Cond.fieldLink RX1 15 "SparkBoards$Lamps" "columns" "[I", Cond.fieldLink RX1 19 "SparkBoards$Lamps" "rows" "[I", Cond.methodLink RX1 36 yX0_cell, Cond.methodLink RX1 42 yX0_kind, Cond.methodLink RX4 138 yX0_many, Cond.instanceMethod yX0_many, Cond.selects RX0 yX0_many yX0_many, Cond.code yX0_many cX0_many 4 (some .int)]
def wsL_pass : List Cond := .codeWith yL_pass cL_pass 4 (some .int) [(0, 9, 12, 13)] :: ((wsL_pass_r1 ++ (wsL_pass_r2 ++ wsL_pass_r3)) ++ wsX40 ++ wsX00 ++ wsX10 ++ (vx_atS RX4 58 "java/lang/IllegalArgumentException" ["java/lang/RuntimeException", "java/lang/Exception"]).filter goodWord)
def wsL_told_r1 : List Cond := [Cond.classLink RL 19 "java/lang/IndexOutOfBoundsException", Cond.methodLink RL 43 yX4_told, Cond.instanceMethod yX4_told, Cond.selects RX4 yX4_told yX4_told, Cond.initialized RX4, Cond.code yX4_told cX4_told 5 (some .int), Cond.classLink RX4 74 "java/lang/IndexOutOfBoundsException", Cond.initialized "java/lang/IndexOutOfBoundsException", Cond.fieldLink RX4 14 "SparkBoards" "board" "LSparkBoards$Board;", Cond.fieldLink RX4 24 "SparkBoards" "wires" "LSparkBoards$Wires;", Cond.methodLink RX4 70 yX0_cell, Cond.instanceMethod yX0_cell, Cond.selects RX0 yX0_cell yX0_cell, Cond.initialized RX0, Cond.code yX0_cell cX0_cell 3 (some .int), Cond.fieldLink RX0 9 "SparkBoards$Board" "columns" "I", Cond.fieldLink RX0 15 "SparkBoards$Board" "rows" "I", Cond.methodLink RX4 81 yX0_kind, Cond.instanceMethod yX0_kind, Cond.selects RX0 yX0_kind yX0_kind, Cond.code yX0_kind cX0_kind 2 (some .int), Cond.fieldLink RX0 18 "SparkBoards$Board" "kinds" "[I", Cond.methodLink RX4 159 yX0_headsAround, Cond.instanceMethod yX0_headsAround]
def wsL_told_r2 : List Cond := [Cond.selects RX0 yX0_headsAround yX0_headsAround, Cond.code yX0_headsAround cX0_headsAround 5 (some .int), Cond.methodLink RX0 49 yX0_neighbour, Cond.instanceMethod yX0_neighbour, Cond.selects RX0 yX0_neighbour yX0_neighbour, Cond.code yX0_neighbour cX0_neighbour 4 (some .int), Cond.methodLink RX0 37 yX0_cell, Cond.methodLink RX0 45 yX0_kind, Cond.methodLink RX4 162 yX0_next, Cond.static yX0_next, Cond.code yX0_next cX0_next 2 (some .int), Cond.methodLink RX4 165 yX3_sizeOfPiece, Cond.instanceMethod yX3_sizeOfPiece, Cond.selects RX3 yX3_sizeOfPiece yX3_sizeOfPiece, Cond.initialized RX3, Cond.code yX3_sizeOfPiece cX3_sizeOfPiece 4 (some .int), Cond.methodLink RX3 21 yX3_forget, Cond.instanceMethod yX3_forget, Cond.selects RX3 yX3_forget yX3_forget, Cond.code yX3_forget cX3_forget 1 none, Cond.fieldLink RX3 9 "SparkBoards$Wires" "far" "[I", Cond.methodLink RX3 43 yJ7_fill_53178, Cond.static yJ7_fill_53178, Cond.initialized RJ7]
def wsL_told_r3 : List Cond := [Cond.code yJ7_fill_53178 cJ7_fill_53178 4 none, Cond.methodLink RX3 24 yX3_reach, Cond.instanceMethod yX3_reach, Cond.selects RX3 yX3_reach yX3_reach, Cond.code yX3_reach cX3_reach 8 (some .int), Cond.fieldLink RX3 15 "SparkBoards$Wires" "reachedX" "[I", Cond.fieldLink RX3 18 "SparkBoards$Wires" "reachedY" "[I", Cond.methodLink RX3 49 yX3_visit, Cond.instanceMethod yX3_visit, Cond.selects RX3 yX3_visit yX3_visit, Cond.code yX3_visit cX3_visit 7 (some .int), Cond.methodLink RX3 53 yX0_cell, Cond.methodLink RX3 62 yX0_kind, Cond.methodLink RX4 169 yX0_wiredAround, Cond.instanceMethod yX0_wiredAround, Cond.selects RX0 yX0_wiredAround yX0_wiredAround, Cond.code yX0_wiredAround cX0_wiredAround 5 (some .int)]
def wsL_told : List Cond := .codeWith yL_told cL_told 6 (some .int) [(0, 12, 15, 19)] :: ((wsL_told_r1 ++ (wsL_told_r2 ++ wsL_told_r3)) ++ wsX40 ++ wsX00 ++ wsX30 ++ (vx_atS RX4 78 "java/lang/IndexOutOfBoundsException" ["java/lang/RuntimeException", "java/lang/Exception"]).filter goodWord)
def wsL_about_r1 : List Cond := [Cond.classLink RL 19 "java/lang/IndexOutOfBoundsException", Cond.methodLink RL 46 yX4_about, Cond.instanceMethod yX4_about, Cond.selects RX4 yX4_about yX4_about, Cond.initialized RX4, Cond.code yX4_about cX4_about 3 (some .int), Cond.classLink RX4 74 "java/lang/IndexOutOfBoundsException", Cond.initialized "java/lang/IndexOutOfBoundsException", Cond.fieldLink RX4 31 "SparkBoards" "lamps" "LSparkBoards$Lamps;", Cond.methodLink RX4 141 yX1_many, Cond.instanceMethod yX1_many, Cond.selects RX1 yX1_many yX1_many, Cond.initialized RX1, Cond.code yX1_many cX1_many 1 (some .int), Cond.fieldLink RX1 9 "SparkBoards$Lamps" "many" "I", Cond.methodLink RX4 174 yX1_column, Cond.instanceMethod yX1_column, Cond.selects RX1 yX1_column yX1_column, Cond.code yX1_column cX1_column 2 (some .int), Cond.fieldLink RX1 15 "SparkBoards$Lamps" "columns" "[I", Cond.methodLink RX1 28 yX1_isLamp, Cond.instanceMethod yX1_isLamp, Cond.selects RX1 yX1_isLamp yX1_isLamp, Cond.code yX1_isLamp cX1_isLamp 2 (some .boolean)]
def wsL_about_r2 : List Cond := [Cond.methodLink RX4 177 yX1_row, Cond.instanceMethod yX1_row, Cond.selects RX1 yX1_row yX1_row, Cond.code yX1_row cX1_row 2 (some .int), Cond.fieldLink RX1 19 "SparkBoards$Lamps" "rows" "[I", Cond.methodLink RX4 180 yX1_lit, Cond.instanceMethod yX1_lit, Cond.selects RX1 yX1_lit yX1_lit, Cond.code yX1_lit cX1_lit 2 (some .int), Cond.fieldLink RX1 22 "SparkBoards$Lamps" "lit" "[I", Cond.methodLink RX4 183 yX1_latest, Cond.instanceMethod yX1_latest, Cond.selects RX1 yX1_latest yX1_latest, Cond.code yX1_latest cX1_latest 2 (some .int), Cond.fieldLink RX1 25 "SparkBoards$Lamps" "latest" "[I"]
def wsL_about : List Cond := .codeWith yL_about cL_about 5 (some .int) [(0, 10, 13, 19)] :: ((wsL_about_r1 ++ wsL_about_r2) ++ wsX40 ++ wsX10 ++ (vx_atS RX4 78 "java/lang/IndexOutOfBoundsException" ["java/lang/RuntimeException", "java/lang/Exception"]).filter goodWord)
def wsL_count_r1 : List Cond := [Cond.classLink RL 19 "java/lang/IndexOutOfBoundsException", Cond.methodLink RL 49 yX4_count, Cond.instanceMethod yX4_count, Cond.selects RX4 yX4_count yX4_count, Cond.initialized RX4, Cond.code yX4_count cX4_count 2 (some .int), Cond.classLink RX4 74 "java/lang/IndexOutOfBoundsException", Cond.initialized "java/lang/IndexOutOfBoundsException", Cond.fieldLink RX4 42 "SparkBoards" "stepsGone" "I", Cond.fieldLink RX4 14 "SparkBoards" "board" "LSparkBoards$Board;", Cond.fieldLink RX4 24 "SparkBoards" "wires" "LSparkBoards$Wires;", Cond.fieldLink RX4 31 "SparkBoards" "lamps" "LSparkBoards$Lamps;", Cond.methodLink RX4 188 yX0_columns, Cond.instanceMethod yX0_columns, Cond.selects RX0 yX0_columns yX0_columns, Cond.initialized RX0, Cond.code yX0_columns cX0_columns 1 (some .int), Cond.fieldLink RX0 9 "SparkBoards$Board" "columns" "I", Cond.methodLink RX4 191 yX0_rows, Cond.instanceMethod yX0_rows, Cond.selects RX0 yX0_rows yX0_rows, Cond.code yX0_rows cX0_rows 1 (some .int), Cond.fieldLink RX0 15 "SparkBoards$Board" "rows" "I", Cond.methodLink RX4 138 yX0_many]
def wsL_count_r2 : List Cond := [Cond.instanceMethod yX0_many, Cond.selects RX0 yX0_many yX0_many, Cond.code yX0_many cX0_many 4 (some .int), Cond.methodLink RX0 41 yX0_size, Cond.instanceMethod yX0_size, Cond.selects RX0 yX0_size yX0_size, Cond.code yX0_size cX0_size 1 (some .int), Cond.methodLink RX0 45 yX0_kind, Cond.instanceMethod yX0_kind, Cond.selects RX0 yX0_kind yX0_kind, Cond.code yX0_kind cX0_kind 2 (some .int), Cond.fieldLink RX0 18 "SparkBoards$Board" "kinds" "[I", Cond.methodLink RX4 194 yX3_pieces, Cond.instanceMethod yX3_pieces, Cond.selects RX3 yX3_pieces yX3_pieces, Cond.initialized RX3, Cond.code yX3_pieces cX3_pieces 5 (some .int), Cond.methodLink RX3 21 yX3_forget, Cond.instanceMethod yX3_forget, Cond.selects RX3 yX3_forget yX3_forget, Cond.code yX3_forget cX3_forget 1 none, Cond.fieldLink RX3 9 "SparkBoards$Wires" "far" "[I", Cond.methodLink RX3 43 yJ7_fill_53178, Cond.static yJ7_fill_53178]
def wsL_count_r3 : List Cond := [Cond.initialized RJ7, Cond.code yJ7_fill_53178 cJ7_fill_53178 4 none, Cond.methodLink RX3 28 yX0_rows, Cond.methodLink RX3 34 yX0_columns, Cond.methodLink RX3 24 yX3_reach, Cond.instanceMethod yX3_reach, Cond.selects RX3 yX3_reach yX3_reach, Cond.code yX3_reach cX3_reach 8 (some .int), Cond.fieldLink RX3 15 "SparkBoards$Wires" "reachedX" "[I", Cond.fieldLink RX3 18 "SparkBoards$Wires" "reachedY" "[I", Cond.methodLink RX3 49 yX3_visit, Cond.instanceMethod yX3_visit, Cond.selects RX3 yX3_visit yX3_visit, Cond.code yX3_visit cX3_visit 7 (some .int), Cond.methodLink RX3 53 yX0_cell, Cond.instanceMethod yX0_cell, Cond.selects RX0 yX0_cell yX0_cell, Cond.code yX0_cell cX0_cell 3 (some .int), Cond.methodLink RX3 62 yX0_kind, Cond.methodLink RX4 198 yX3_sizeOfLongest, Cond.instanceMethod yX3_sizeOfLongest, Cond.selects RX3 yX3_sizeOfLongest yX3_sizeOfLongest, Cond.code yX3_sizeOfLongest cX3_sizeOfLongest 5 (some .int), Cond.methodLink RX3 37 Lib.Math.max.name]
def wsL_count_r4 : List Cond := [Cond.static Lib.Math.max.name, Cond.initialized "java/lang/Math", Cond.code Lib.Math.max.name Lib.Math.max.code 2 (some .int), Cond.methodLink RX4 141 yX1_many, Cond.instanceMethod yX1_many, Cond.selects RX1 yX1_many yX1_many, Cond.initialized RX1, Cond.code yX1_many cX1_many 1 (some .int), Cond.fieldLink RX1 9 "SparkBoards$Lamps" "many" "I", Cond.methodLink RX4 201 yX1_litInAll, Cond.instanceMethod yX1_litInAll, Cond.selects RX1 yX1_litInAll yX1_litInAll, Cond.code yX1_litInAll cX1_litInAll 3 (some .int), Cond.fieldLink RX1 22 "SparkBoards$Lamps" "lit" "[I"]
def wsL_count : List Cond := .codeWith yL_count cL_count 4 (some .int) [(0, 9, 12, 19)] :: ((wsL_count_r1 ++ (wsL_count_r2 ++ (wsL_count_r3 ++ wsL_count_r4))) ++ wsX40 ++ wsX00 ++ wsX30 ++ wsX10 ++ (vx_atS RX4 78 "java/lang/IndexOutOfBoundsException" ["java/lang/RuntimeException", "java/lang/Exception"]).filter goodWord)
def wsL_way_r1 : List Cond := [Cond.classLink RL 19 "java/lang/IndexOutOfBoundsException", Cond.methodLink RL 52 yX4_way, Cond.instanceMethod yX4_way, Cond.selects RX4 yX4_way yX4_way, Cond.initialized RX4, Cond.code yX4_way cX4_way 7 (some .int), Cond.classLink RX4 74 "java/lang/IndexOutOfBoundsException", Cond.initialized "java/lang/IndexOutOfBoundsException", Cond.fieldLink RX4 14 "SparkBoards" "board" "LSparkBoards$Board;", Cond.fieldLink RX4 24 "SparkBoards" "wires" "LSparkBoards$Wires;", Cond.methodLink RX4 70 yX0_cell, Cond.instanceMethod yX0_cell, Cond.selects RX0 yX0_cell yX0_cell, Cond.initialized RX0, Cond.code yX0_cell cX0_cell 3 (some .int), Cond.fieldLink RX0 9 "SparkBoards$Board" "columns" "I", Cond.fieldLink RX0 15 "SparkBoards$Board" "rows" "I", Cond.methodLink RX4 204 yX3_far, Cond.instanceMethod yX3_far, Cond.selects RX3 yX3_far yX3_far, Cond.initialized RX3, Cond.code yX3_far cX3_far 5 (some .int), Cond.fieldLink RX3 9 "SparkBoards$Wires" "far" "[I", Cond.methodLink RX3 21 yX3_forget]
def wsL_way_r2 : List Cond := [Cond.instanceMethod yX3_forget, Cond.selects RX3 yX3_forget yX3_forget, Cond.code yX3_forget cX3_forget 1 none, Cond.methodLink RX3 43 yJ7_fill_53178, Cond.static yJ7_fill_53178, Cond.initialized RJ7, Cond.code yJ7_fill_53178 cJ7_fill_53178 4 none, Cond.methodLink RX3 24 yX3_reach, Cond.instanceMethod yX3_reach, Cond.selects RX3 yX3_reach yX3_reach, Cond.code yX3_reach cX3_reach 8 (some .int), Cond.fieldLink RX3 15 "SparkBoards$Wires" "reachedX" "[I", Cond.fieldLink RX3 18 "SparkBoards$Wires" "reachedY" "[I", Cond.methodLink RX3 49 yX3_visit, Cond.instanceMethod yX3_visit, Cond.selects RX3 yX3_visit yX3_visit, Cond.code yX3_visit cX3_visit 7 (some .int), Cond.methodLink RX3 53 yX0_cell, Cond.methodLink RX3 62 yX0_kind, Cond.instanceMethod yX0_kind, Cond.selects RX0 yX0_kind yX0_kind, Cond.code yX0_kind cX0_kind 2 (some .int), Cond.fieldLink RX0 18 "SparkBoards$Board" "kinds" "[I"]
def wsL_way : List Cond := .codeWith yL_way cL_way 7 (some .int) [(0, 14, 17, 19)] :: ((wsL_way_r1 ++ wsL_way_r2) ++ wsX40 ++ wsX00 ++ wsX30 ++ (vx_atS RX4 78 "java/lang/IndexOutOfBoundsException" ["java/lang/RuntimeException", "java/lang/Exception"]).filter goodWord)
def wsL_period_r1 : List Cond := [Cond.classLink RL 19 "java/lang/IndexOutOfBoundsException", Cond.methodLink RL 55 yX4_period, Cond.instanceMethod yX4_period, Cond.selects RX4 yX4_period yX4_period, Cond.initialized RX4, Cond.code yX4_period cX4_period 4 (some .int), Cond.classLink RX4 74 "java/lang/IndexOutOfBoundsException", Cond.initialized "java/lang/IndexOutOfBoundsException", Cond.fieldLink RX4 18 "SparkBoards" "trial" "LSparkBoards$Board;", Cond.fieldLink RX4 14 "SparkBoards" "board" "LSparkBoards$Board;", Cond.fieldLink RX4 38 "SparkBoards" "past" "LSparkBoards$Past;", Cond.methodLink RX4 210 yX0_copy, Cond.instanceMethod yX0_copy, Cond.selects RX0 yX0_copy yX0_copy, Cond.initialized RX0, Cond.code yX0_copy cX0_copy 2 none, Cond.fieldLink RX0 9 "SparkBoards$Board" "columns" "I", Cond.fieldLink RX0 15 "SparkBoards$Board" "rows" "I", Cond.fieldLink RX0 18 "SparkBoards$Board" "kinds" "[I", Cond.methodLink RX0 31 arraycopyName, Cond.native arraycopyName, Cond.static arraycopyName, Cond.initialized "java/lang/System", Cond.methodLink RX4 214 yX2_keep]
def wsL_period_r2 : List Cond := [Cond.instanceMethod yX2_keep, Cond.selects RX2 yX2_keep yX2_keep, Cond.initialized RX2, Cond.code yX2_keep cX2_keep 4 none, Cond.fieldLink RX2 11 "SparkBoards$Past" "words" "[J", Cond.methodLink RX2 15 yX2_packed, Cond.static yX2_packed, Cond.code yX2_packed cX2_packed 5 (some .long), Cond.methodLink RX2 23 yX0_kind, Cond.instanceMethod yX0_kind, Cond.selects RX0 yX0_kind yX0_kind, Cond.code yX0_kind cX0_kind 2 (some .int), Cond.methodLink RX4 150 yX0_step, Cond.instanceMethod yX0_step, Cond.selects RX0 yX0_step yX0_step, Cond.code yX0_step cX0_step 2 none, Cond.fieldLink RX0 22 "SparkBoards$Board" "headsBeside" "[I", Cond.methodLink RX0 59 yX0_countHeadsBeside, Cond.instanceMethod yX0_countHeadsBeside, Cond.selects RX0 yX0_countHeadsBeside yX0_countHeadsBeside, Cond.code yX0_countHeadsBeside cX0_countHeadsBeside 3 none, Cond.methodLink RX0 25 yJ7_fill_53178, Cond.static yJ7_fill_53178, Cond.initialized RJ7]
def wsL_period_r3 : List Cond := [Cond.code yJ7_fill_53178 cJ7_fill_53178 4 none, Cond.methodLink RX0 37 yX0_cell, Cond.instanceMethod yX0_cell, Cond.selects RX0 yX0_cell yX0_cell, Cond.code yX0_cell cX0_cell 3 (some .int), Cond.methodLink RX0 45 yX0_kind, Cond.methodLink RX0 65 yX0_tellNeighbours, Cond.instanceMethod yX0_tellNeighbours, Cond.selects RX0 yX0_tellNeighbours yX0_tellNeighbours, Cond.code yX0_tellNeighbours cX0_tellNeighbours 5 none, Cond.methodLink RX0 49 yX0_neighbour, Cond.instanceMethod yX0_neighbour, Cond.selects RX0 yX0_neighbour yX0_neighbour, Cond.code yX0_neighbour cX0_neighbour 4 (some .int), Cond.methodLink RX0 41 yX0_size, Cond.instanceMethod yX0_size, Cond.selects RX0 yX0_size yX0_size, Cond.code yX0_size cX0_size 1 (some .int), Cond.methodLink RX0 62 yX0_next, Cond.static yX0_next, Cond.code yX0_next cX0_next 2 (some .int), Cond.methodLink RX4 218 yX2_firstLike, Cond.instanceMethod yX2_firstLike, Cond.selects RX2 yX2_firstLike yX2_firstLike]
def wsL_period_r4 : List Cond := [Cond.code yX2_firstLike cX2_firstLike 3 (some .int), Cond.methodLink RX2 19 yX2_isSame, Cond.instanceMethod yX2_isSame, Cond.selects RX2 yX2_isSame yX2_isSame, Cond.code yX2_isSame cX2_isSame 4 (some .boolean)]
def wsL_period : List Cond := .codeWith yL_period cL_period 4 (some .int) [(0, 9, 12, 19)] :: ((wsL_period_r1 ++ (wsL_period_r2 ++ (wsL_period_r3 ++ wsL_period_r4))) ++ wsX40 ++ wsX00 ++ wsX20 ++ (vx_atS RX4 78 "java/lang/IndexOutOfBoundsException" ["java/lang/RuntimeException", "java/lang/Exception"]).filter goodWord)
def wsL_until_r1 : List Cond := [Cond.classLink RL 19 "java/lang/IndexOutOfBoundsException", Cond.methodLink RL 58 yX4_until, Cond.instanceMethod yX4_until, Cond.selects RX4 yX4_until yX4_until, Cond.initialized RX4, Cond.code yX4_until cX4_until 5 (some .int), Cond.classLink RX4 74 "java/lang/IndexOutOfBoundsException", Cond.initialized "java/lang/IndexOutOfBoundsException", Cond.fieldLink RX4 14 "SparkBoards" "board" "LSparkBoards$Board;", Cond.fieldLink RX4 18 "SparkBoards" "trial" "LSparkBoards$Board;", Cond.methodLink RX4 70 yX0_cell, Cond.instanceMethod yX0_cell, Cond.selects RX0 yX0_cell yX0_cell, Cond.initialized RX0, Cond.code yX0_cell cX0_cell 3 (some .int), Cond.fieldLink RX0 9 "SparkBoards$Board" "columns" "I", Cond.fieldLink RX0 15 "SparkBoards$Board" "rows" "I", Cond.methodLink RX4 210 yX0_copy, Cond.instanceMethod yX0_copy, Cond.selects RX0 yX0_copy yX0_copy, Cond.code yX0_copy cX0_copy 2 none, Cond.fieldLink RX0 18 "SparkBoards$Board" "kinds" "[I", Cond.methodLink RX0 31 arraycopyName, Cond.native arraycopyName]
def wsL_until_r2 : List Cond := [Cond.static arraycopyName, Cond.initialized "java/lang/System", Cond.methodLink RX4 81 yX0_kind, Cond.instanceMethod yX0_kind, Cond.selects RX0 yX0_kind yX0_kind, Cond.code yX0_kind cX0_kind 2 (some .int), Cond.methodLink RX4 150 yX0_step, Cond.instanceMethod yX0_step, Cond.selects RX0 yX0_step yX0_step, Cond.code yX0_step cX0_step 2 none, Cond.fieldLink RX0 22 "SparkBoards$Board" "headsBeside" "[I", Cond.methodLink RX0 59 yX0_countHeadsBeside, Cond.instanceMethod yX0_countHeadsBeside, Cond.selects RX0 yX0_countHeadsBeside yX0_countHeadsBeside, Cond.code yX0_countHeadsBeside cX0_countHeadsBeside 3 none, Cond.methodLink RX0 25 yJ7_fill_53178, Cond.static yJ7_fill_53178, Cond.initialized RJ7, Cond.code yJ7_fill_53178 cJ7_fill_53178 4 none, Cond.methodLink RX0 37 yX0_cell, Cond.methodLink RX0 45 yX0_kind, Cond.methodLink RX0 65 yX0_tellNeighbours, Cond.instanceMethod yX0_tellNeighbours, Cond.selects RX0 yX0_tellNeighbours yX0_tellNeighbours]
def wsL_until_r3 : List Cond := [Cond.code yX0_tellNeighbours cX0_tellNeighbours 5 none, Cond.methodLink RX0 49 yX0_neighbour, Cond.instanceMethod yX0_neighbour, Cond.selects RX0 yX0_neighbour yX0_neighbour, Cond.code yX0_neighbour cX0_neighbour 4 (some .int), Cond.methodLink RX0 41 yX0_size, Cond.instanceMethod yX0_size, Cond.selects RX0 yX0_size yX0_size, Cond.code yX0_size cX0_size 1 (some .int), Cond.methodLink RX0 62 yX0_next, Cond.static yX0_next, Cond.code yX0_next cX0_next 2 (some .int)]
def wsL_until : List Cond := .codeWith yL_until cL_until 5 (some .int) [(0, 10, 13, 19)] :: ((wsL_until_r1 ++ (wsL_until_r2 ++ wsL_until_r3)) ++ wsX40 ++ wsX00 ++ (vx_atS RX4 78 "java/lang/IndexOutOfBoundsException" ["java/lang/RuntimeException", "java/lang/Exception"]).filter goodWord)
def wsL_foresee_r1 : List Cond := [Cond.classLink RL 13 "java/lang/IllegalArgumentException", Cond.classLink RL 19 "java/lang/IndexOutOfBoundsException", Cond.methodLink RL 61 yX4_foresee, Cond.instanceMethod yX4_foresee, Cond.selects RX4 yX4_foresee yX4_foresee, Cond.initialized RX4, Cond.code yX4_foresee cX4_foresee 6 (some .int), Cond.classLink RX4 54 "java/lang/IllegalArgumentException", Cond.initialized "java/lang/IllegalArgumentException", Cond.classLink RX4 74 "java/lang/IndexOutOfBoundsException", Cond.initialized "java/lang/IndexOutOfBoundsException", Cond.fieldLink RX4 31 "SparkBoards" "lamps" "LSparkBoards$Lamps;", Cond.fieldLink RX4 18 "SparkBoards" "trial" "LSparkBoards$Board;", Cond.fieldLink RX4 14 "SparkBoards" "board" "LSparkBoards$Board;", Cond.methodLink RX4 201 yX1_litInAll, Cond.instanceMethod yX1_litInAll, Cond.selects RX1 yX1_litInAll yX1_litInAll, Cond.initialized RX1, Cond.code yX1_litInAll cX1_litInAll 3 (some .int), Cond.fieldLink RX1 9 "SparkBoards$Lamps" "many" "I", Cond.fieldLink RX1 22 "SparkBoards$Lamps" "lit" "[I", Cond.methodLink RX4 210 yX0_copy, Cond.instanceMethod yX0_copy, Cond.selects RX0 yX0_copy yX0_copy]
def wsL_foresee_r2 : List Cond := [Cond.initialized RX0, Cond.code yX0_copy cX0_copy 2 none, Cond.fieldLink RX0 9 "SparkBoards$Board" "columns" "I", Cond.fieldLink RX0 15 "SparkBoards$Board" "rows" "I", Cond.fieldLink RX0 18 "SparkBoards$Board" "kinds" "[I", Cond.methodLink RX0 31 arraycopyName, Cond.native arraycopyName, Cond.static arraycopyName, Cond.initialized "java/lang/System", Cond.methodLink RX4 150 yX0_step, Cond.instanceMethod yX0_step, Cond.selects RX0 yX0_step yX0_step, Cond.code yX0_step cX0_step 2 none, Cond.fieldLink RX0 22 "SparkBoards$Board" "headsBeside" "[I", Cond.methodLink RX0 59 yX0_countHeadsBeside, Cond.instanceMethod yX0_countHeadsBeside, Cond.selects RX0 yX0_countHeadsBeside yX0_countHeadsBeside, Cond.code yX0_countHeadsBeside cX0_countHeadsBeside 3 none, Cond.methodLink RX0 25 yJ7_fill_53178, Cond.static yJ7_fill_53178, Cond.initialized RJ7, Cond.code yJ7_fill_53178 cJ7_fill_53178 4 none, Cond.methodLink RX0 37 yX0_cell, Cond.instanceMethod yX0_cell]
def wsL_foresee_r3 : List Cond := [Cond.selects RX0 yX0_cell yX0_cell, Cond.code yX0_cell cX0_cell 3 (some .int), Cond.methodLink RX0 45 yX0_kind, Cond.instanceMethod yX0_kind, Cond.selects RX0 yX0_kind yX0_kind, Cond.code yX0_kind cX0_kind 2 (some .int), Cond.methodLink RX0 65 yX0_tellNeighbours, Cond.instanceMethod yX0_tellNeighbours, Cond.selects RX0 yX0_tellNeighbours yX0_tellNeighbours, Cond.code yX0_tellNeighbours cX0_tellNeighbours 5 none, Cond.methodLink RX0 49 yX0_neighbour, Cond.instanceMethod yX0_neighbour, Cond.selects RX0 yX0_neighbour yX0_neighbour, Cond.code yX0_neighbour cX0_neighbour 4 (some .int), Cond.methodLink RX0 41 yX0_size, Cond.instanceMethod yX0_size, Cond.selects RX0 yX0_size yX0_size, Cond.code yX0_size cX0_size 1 (some .int), Cond.methodLink RX0 62 yX0_next, Cond.static yX0_next, Cond.code yX0_next cX0_next 2 (some .int), Cond.methodLink RX4 225 yX1_alight, Cond.instanceMethod yX1_alight, Cond.selects RX1 yX1_alight yX1_alight]
def wsL_foresee_r4 : List Cond := [Cond.code yX1_alight cX1_alight 4 (some .int), Cond.methodLink RX1 32 yX1_isAlight, Cond.instanceMethod yX1_isAlight, Cond.selects RX1 yX1_isAlight yX1_isAlight, Cond.code yX1_isAlight cX1_isAlight 3 (some .boolean), Cond.fieldLink RX1 15 "SparkBoards$Lamps" "columns" "[I", Cond.fieldLink RX1 19 "SparkBoards$Lamps" "rows" "[I", Cond.methodLink RX1 36 yX0_cell, Cond.methodLink RX1 42 yX0_kind, Cond.methodLink RX4 138 yX0_many, Cond.instanceMethod yX0_many, Cond.selects RX0 yX0_many yX0_many, Cond.code yX0_many cX0_many 4 (some .int)]
def wsL_foresee : List Cond := .codeWith yL_foresee cL_foresee 5 (some .int) [(0, 10, 13, 13), (0, 10, 17, 19)] :: ((wsL_foresee_r1 ++ (wsL_foresee_r2 ++ (wsL_foresee_r3 ++ wsL_foresee_r4))) ++ wsX40 ++ wsX10 ++ wsX00 ++ (vx_atS RX4 58 "java/lang/IllegalArgumentException" ["java/lang/RuntimeException", "java/lang/Exception"]).filter goodWord ++ (vx_atS RX4 78 "java/lang/IndexOutOfBoundsException" ["java/lang/RuntimeException", "java/lang/Exception"]).filter goodWord)
def wsL_advise_r1 : List Cond := [Cond.classLink RL 13 "java/lang/IllegalArgumentException", Cond.methodLink RL 64 yX4_advise, Cond.instanceMethod yX4_advise, Cond.selects RX4 yX4_advise yX4_advise, Cond.initialized RX4, Cond.code yX4_advise cX4_advise 6 (some .int), Cond.classLink RX4 54 "java/lang/IllegalArgumentException", Cond.initialized "java/lang/IllegalArgumentException", Cond.fieldLink RX4 18 "SparkBoards" "trial" "LSparkBoards$Board;", Cond.fieldLink RX4 14 "SparkBoards" "board" "LSparkBoards$Board;", Cond.methodLink RX4 210 yX0_copy, Cond.instanceMethod yX0_copy, Cond.selects RX0 yX0_copy yX0_copy, Cond.initialized RX0, Cond.code yX0_copy cX0_copy 2 none, Cond.fieldLink RX0 9 "SparkBoards$Board" "columns" "I", Cond.fieldLink RX0 15 "SparkBoards$Board" "rows" "I", Cond.fieldLink RX0 18 "SparkBoards$Board" "kinds" "[I", Cond.methodLink RX0 31 arraycopyName, Cond.native arraycopyName, Cond.static arraycopyName, Cond.initialized "java/lang/System", Cond.methodLink RX4 230 yX4_headsOfTrial, Cond.instanceMethod yX4_headsOfTrial]
def wsL_advise_r2 : List Cond := [Cond.selects RX4 yX4_headsOfTrial yX4_headsOfTrial, Cond.code yX4_headsOfTrial cX4_headsOfTrial 3 (some .int), Cond.methodLink RX4 150 yX0_step, Cond.instanceMethod yX0_step, Cond.selects RX0 yX0_step yX0_step, Cond.code yX0_step cX0_step 2 none, Cond.fieldLink RX0 22 "SparkBoards$Board" "headsBeside" "[I", Cond.methodLink RX0 59 yX0_countHeadsBeside, Cond.instanceMethod yX0_countHeadsBeside, Cond.selects RX0 yX0_countHeadsBeside yX0_countHeadsBeside, Cond.code yX0_countHeadsBeside cX0_countHeadsBeside 3 none, Cond.methodLink RX0 25 yJ7_fill_53178, Cond.static yJ7_fill_53178, Cond.initialized RJ7, Cond.code yJ7_fill_53178 cJ7_fill_53178 4 none, Cond.methodLink RX0 37 yX0_cell, Cond.instanceMethod yX0_cell, Cond.selects RX0 yX0_cell yX0_cell, Cond.code yX0_cell cX0_cell 3 (some .int), Cond.methodLink RX0 45 yX0_kind, Cond.instanceMethod yX0_kind, Cond.selects RX0 yX0_kind yX0_kind, Cond.code yX0_kind cX0_kind 2 (some .int), Cond.methodLink RX0 65 yX0_tellNeighbours]
def wsL_advise_r3 : List Cond := [Cond.instanceMethod yX0_tellNeighbours, Cond.selects RX0 yX0_tellNeighbours yX0_tellNeighbours, Cond.code yX0_tellNeighbours cX0_tellNeighbours 5 none, Cond.methodLink RX0 49 yX0_neighbour, Cond.instanceMethod yX0_neighbour, Cond.selects RX0 yX0_neighbour yX0_neighbour, Cond.code yX0_neighbour cX0_neighbour 4 (some .int), Cond.methodLink RX0 41 yX0_size, Cond.instanceMethod yX0_size, Cond.selects RX0 yX0_size yX0_size, Cond.code yX0_size cX0_size 1 (some .int), Cond.methodLink RX0 62 yX0_next, Cond.static yX0_next, Cond.code yX0_next cX0_next 2 (some .int), Cond.methodLink RX4 138 yX0_many, Cond.instanceMethod yX0_many, Cond.selects RX0 yX0_many yX0_many, Cond.code yX0_many cX0_many 4 (some .int), Cond.methodLink RX4 66 yX0_size, Cond.methodLink RX4 81 yX0_kind, Cond.methodLink RX4 85 yX0_put, Cond.instanceMethod yX0_put, Cond.selects RX0 yX0_put yX0_put, Cond.code yX0_put cX0_put 3 none]
def wsL_advise : List Cond := .codeWith yL_advise cL_advise 4 (some .int) [(0, 9, 12, 13)] :: ((wsL_advise_r1 ++ (wsL_advise_r2 ++ wsL_advise_r3)) ++ wsX40 ++ wsX00 ++ (vx_atS RX4 58 "java/lang/IllegalArgumentException" ["java/lang/RuntimeException", "java/lang/Exception"]).filter goodWord)
def wsL_law0_r1 : List Cond := [Cond.classLink RL 8 RX4, Cond.instantiable RX4 7, Cond.initialized RX4, Cond.classLink RL 68 RX5, Cond.instantiable RX5 14, Cond.initialized RX5, Cond.arrayClass .long, Cond.methodLink RL 67 yX4_init, Cond.instanceMethod yX4_init, Cond.code yX4_init cX4_init 1 none, Cond.methodLink RX4 3 objectInit, Cond.instanceMethod objectInit, Cond.code objectInit ⟨#[0xb1]⟩ 1 none, Cond.classLink RX4 9 RX0, Cond.instantiable RX0 4, Cond.initialized RX0, Cond.fieldLink RX4 14 "SparkBoards" "board" "LSparkBoards$Board;", Cond.fieldLink RX4 18 "SparkBoards" "trial" "LSparkBoards$Board;", Cond.classLink RX4 21 RX3, Cond.instantiable RX3 3, Cond.initialized RX3, Cond.fieldLink RX4 24 "SparkBoards" "wires" "LSparkBoards$Wires;", Cond.classLink RX4 28 RX1, Cond.instantiable RX1 5]
def wsL_law0_r2 : List Cond := [Cond.initialized RX1, Cond.fieldLink RX4 31 "SparkBoards" "lamps" "LSparkBoards$Lamps;", Cond.classLink RX4 35 RX2, Cond.instantiable RX2 1, Cond.initialized RX2, Cond.fieldLink RX4 38 "SparkBoards" "past" "LSparkBoards$Past;", Cond.fieldLink RX4 42 "SparkBoards" "stepsGone" "I", Cond.fieldLink RX4 46 "SparkBoards" "headsOfAllSteps" "J", Cond.methodLink RX4 11 yX0_init, Cond.instanceMethod yX0_init, Cond.code yX0_init cX0_init 3 none, Cond.methodLink RX0 3 objectInit, Cond.fieldLink RX0 9 "SparkBoards$Board" "columns" "I", Cond.fieldLink RX0 15 "SparkBoards$Board" "rows" "I", Cond.arrayClass .int, Cond.fieldLink RX0 18 "SparkBoards$Board" "kinds" "[I", Cond.fieldLink RX0 22 "SparkBoards$Board" "headsBeside" "[I", Cond.methodLink RX4 23 yX3_init, Cond.instanceMethod yX3_init, Cond.code yX3_init cX3_init 1 none, Cond.methodLink RX3 3 objectInit, Cond.fieldLink RX3 9 "SparkBoards$Wires" "far" "[I", Cond.fieldLink RX3 15 "SparkBoards$Wires" "reachedX" "[I", Cond.fieldLink RX3 18 "SparkBoards$Wires" "reachedY" "[I"]
def wsL_law0_r3 : List Cond := [Cond.methodLink RX4 30 yX1_init, Cond.instanceMethod yX1_init, Cond.code yX1_init cX1_init 1 none, Cond.methodLink RX1 3 objectInit, Cond.fieldLink RX1 9 "SparkBoards$Lamps" "many" "I", Cond.fieldLink RX1 15 "SparkBoards$Lamps" "columns" "[I", Cond.fieldLink RX1 19 "SparkBoards$Lamps" "rows" "[I", Cond.fieldLink RX1 22 "SparkBoards$Lamps" "lit" "[I", Cond.fieldLink RX1 25 "SparkBoards$Lamps" "latest" "[I", Cond.methodLink RX4 37 yX2_init, Cond.instanceMethod yX2_init, Cond.code yX2_init cX2_init 1 none, Cond.methodLink RX2 5 objectInit, Cond.fieldLink RX2 11 "SparkBoards$Past" "words" "[J", Cond.methodLink RL 70 yX5_init, Cond.instanceMethod yX5_init, Cond.code yX5_init cX5_init 1 none, Cond.methodLink RX5 1 objectInit, Cond.fieldLink RX5 7 "SparkBoardsModel" "columns" "I", Cond.fieldLink RX5 13 "SparkBoardsModel" "rows" "I", Cond.fieldLink RX5 16 "SparkBoardsModel" "now" "[I", Cond.fieldLink RX5 20 "SparkBoardsModel" "kept" "[I", Cond.fieldLink RX5 23 "SparkBoardsModel" "other" "[I", Cond.fieldLink RX5 26 "SparkBoardsModel" "lampRow" "[I"]
def wsL_law0_r4 : List Cond := [Cond.fieldLink RX5 29 "SparkBoardsModel" "lampKept" "[I", Cond.fieldLink RX5 32 "SparkBoardsModel" "were" "[I", Cond.fieldLink RX5 35 "SparkBoardsModel" "marks" "[I", Cond.fieldLink RX5 38 "SparkBoardsModel" "line" "[I", Cond.methodLink RL 71 yL_setBoard, Cond.static yL_setBoard, Cond.initialized RL, Cond.codeWith yL_setBoard cL_setBoard 5 (some .int) [(0, 10, 13, 13)], Cond.classLink RL 13 "java/lang/IllegalArgumentException", Cond.methodLink RL 7 yX4_setBoard, Cond.instanceMethod yX4_setBoard, Cond.selects RX4 yX4_setBoard yX4_setBoard, Cond.code yX4_setBoard cX4_setBoard 3 (some .int), Cond.classLink RX4 54 "java/lang/IllegalArgumentException", Cond.initialized "java/lang/IllegalArgumentException", Cond.methodLink RX4 50 yX4_isSide, Cond.static yX4_isSide, Cond.code yX4_isSide cX4_isSide 1 (some .boolean), Cond.methodLink RX4 61 yX0_clear, Cond.instanceMethod yX0_clear, Cond.selects RX0 yX0_clear yX0_clear, Cond.code yX0_clear cX0_clear 3 none, Cond.methodLink RX0 25 yJ7_fill_53178, Cond.static yJ7_fill_53178]
def wsL_law0_r5 : List Cond := [Cond.initialized RJ7, Cond.code yJ7_fill_53178 cJ7_fill_53178 4 none, Cond.methodLink RX4 64 yX1_clear, Cond.instanceMethod yX1_clear, Cond.selects RX1 yX1_clear yX1_clear, Cond.code yX1_clear cX1_clear 1 none, Cond.methodLink RX4 66 yX0_size, Cond.instanceMethod yX0_size, Cond.selects RX0 yX0_size yX0_size, Cond.code yX0_size cX0_size 1 (some .int), Cond.methodLink RL 76 yX5_setBoard, Cond.instanceMethod yX5_setBoard, Cond.selects RX5 yX5_setBoard yX5_setBoard, Cond.code yX5_setBoard cX5_setBoard 4 (some .int), Cond.fieldLink RX5 41 "SparkBoardsModel" "thrown" "I", Cond.fieldLink RX5 65 "SparkBoardsModel" "lamps" "I", Cond.methodLink RX5 44 yX5_isIn, Cond.static yX5_isIn, Cond.code yX5_isIn cX5_isIn 3 (some .boolean), Cond.methodLink RX5 74 yX5_fail, Cond.instanceMethod yX5_fail, Cond.selects RX5 yX5_fail yX5_fail, Cond.code yX5_fail cX5_fail 2 (some .int), Cond.methodLink RL 77 yX5_thrown]
def wsL_law0_r6 : List Cond := [Cond.instanceMethod yX5_thrown, Cond.selects RX5 yX5_thrown yX5_thrown, Cond.code yX5_thrown cX5_thrown 1 (some .int), Cond.methodLink RL 81 yL_set, Cond.static yL_set, Cond.codeWith yL_set cL_set 6 (some .int) [(0, 12, 15, 19), (0, 12, 19, 13)], Cond.classLink RL 19 "java/lang/IndexOutOfBoundsException", Cond.methodLink RL 15 yX4_set, Cond.instanceMethod yX4_set, Cond.selects RX4 yX4_set yX4_set, Cond.code yX4_set cX4_set 6 (some .int), Cond.classLink RX4 74 "java/lang/IndexOutOfBoundsException", Cond.initialized "java/lang/IndexOutOfBoundsException", Cond.methodLink RX4 70 yX0_cell, Cond.instanceMethod yX0_cell, Cond.selects RX0 yX0_cell yX0_cell, Cond.code yX0_cell cX0_cell 3 (some .int), Cond.methodLink RX4 81 yX0_kind, Cond.instanceMethod yX0_kind, Cond.selects RX0 yX0_kind yX0_kind, Cond.code yX0_kind cX0_kind 2 (some .int), Cond.methodLink RX4 85 yX0_put, Cond.instanceMethod yX0_put, Cond.selects RX0 yX0_put yX0_put]
def wsL_law0_r7 : List Cond := [Cond.code yX0_put cX0_put 3 none, Cond.methodLink RL 84 yX5_set, Cond.instanceMethod yX5_set, Cond.selects RX5 yX5_set yX5_set, Cond.code yX5_set cX5_set 5 (some .int), Cond.methodLink RX5 77 yX5_isCell, Cond.instanceMethod yX5_isCell, Cond.selects RX5 yX5_isCell yX5_isCell, Cond.code yX5_isCell cX5_isCell 3 (some .boolean), Cond.methodLink RX5 48 yX5_at, Cond.static yX5_at, Cond.code yX5_at cX5_at 2 (some .int), Cond.methodLink RL 85 yL_line, Cond.static yL_line, Cond.codeWith yL_line cL_line 7 (some .int) [(0, 14, 17, 19), (0, 14, 21, 13)], Cond.methodLink RL 21 yX4_line, Cond.instanceMethod yX4_line, Cond.selects RX4 yX4_line yX4_line, Cond.code yX4_line cX4_line 12 (some .int), Cond.methodLink RX4 88 Lib.Math.abs.name, Cond.static Lib.Math.abs.name, Cond.initialized "java/lang/Math", Cond.code Lib.Math.abs.name Lib.Math.abs.code 1 (some .int), Cond.methodLink RX4 100 Lib.Math.max.name]
def wsL_law0_r8 : List Cond := [Cond.static Lib.Math.max.name, Cond.code Lib.Math.max.name Lib.Math.max.code 2 (some .int), Cond.methodLink RX4 95 yJ6_compare_7cf53, Cond.static yJ6_compare_7cf53, Cond.initialized RJ6, Cond.code yJ6_compare_7cf53 cJ6_compare_7cf53 2 (some .int), Cond.methodLink RX4 103 yX4_lay, Cond.instanceMethod yX4_lay, Cond.selects RX4 yX4_lay yX4_lay, Cond.code yX4_lay cX4_lay 4 (some .int), Cond.methodLink RL 88 yX5_line, Cond.instanceMethod yX5_line, Cond.selects RX5 yX5_line yX5_line, Cond.code yX5_line cX5_line 10 (some .int), Cond.methodLink RX5 81 Lib.Math.abs.name, Cond.methodLink RX5 86 yJ6_signum_0f7a4, Cond.static yJ6_signum_0f7a4, Cond.code yJ6_signum_0f7a4 cJ6_signum_0f7a4 1 (some .int), Cond.methodLink RX5 91 yX5_lay, Cond.instanceMethod yX5_lay, Cond.selects RX5 yX5_lay yX5_lay, Cond.code yX5_lay cX5_lay 2 (some .int), Cond.methodLink RL 89 yL_ring, Cond.static yL_ring]
def wsL_law0_r9 : List Cond := [Cond.codeWith yL_ring cL_ring 7 (some .int) [(0, 14, 17, 13), (0, 14, 21, 19)], Cond.methodLink RL 25 yX4_ring, Cond.instanceMethod yX4_ring, Cond.selects RX4 yX4_ring yX4_ring, Cond.code yX4_ring cX4_ring 7 (some .int), Cond.methodLink RX4 108 yX0_holds, Cond.instanceMethod yX0_holds, Cond.selects RX0 yX0_holds yX0_holds, Cond.code yX0_holds cX0_holds 5 (some .boolean), Cond.methodLink RX0 37 yX0_cell, Cond.methodLink RL 91 yX5_ring, Cond.instanceMethod yX5_ring, Cond.selects RX5 yX5_ring yX5_ring, Cond.code yX5_ring cX5_ring 7 (some .int), Cond.methodLink RL 92 yL_stamp, Cond.static yL_stamp, Cond.codeWith yL_stamp cL_stamp 7 (some .int) [(0, 14, 17, 19)], Cond.methodLink RL 28 yX4_stamp, Cond.instanceMethod yX4_stamp, Cond.selects RX4 yX4_stamp yX4_stamp, Cond.code yX4_stamp cX4_stamp 10 (some .int), Cond.fieldLink RX4 121 "SparkBoards" "STAMPED" "[I", Cond.methodLink RX4 118 yX4_turned, Cond.static yX4_turned]
def wsL_law0_r10 : List Cond := [Cond.code yX4_turned cX4_turned 6 (some .int), Cond.methodLink RL 94 yX5_stamp, Cond.instanceMethod yX5_stamp, Cond.selects RX5 yX5_stamp yX5_stamp, Cond.code yX5_stamp cX5_stamp 14 (some .int), Cond.fieldLink RX5 94 "SparkBoardsModel" "STAMPS" "[[I", Cond.methodLink RL 95 yL_spark, Cond.static yL_spark, Cond.codeWith yL_spark cL_spark 6 (some .int) [(0, 12, 15, 19), (0, 12, 19, 34)], Cond.classLink RL 34 "java/lang/IllegalStateException", Cond.methodLink RL 31 yX4_spark, Cond.instanceMethod yX4_spark, Cond.selects RX4 yX4_spark yX4_spark, Cond.code yX4_spark cX4_spark 6 (some .int), Cond.classLink RX4 133 "java/lang/IllegalStateException", Cond.initialized "java/lang/IllegalStateException", Cond.fieldLink RX4 127 "SparkBoards" "RIGHT" "[I", Cond.fieldLink RX4 130 "SparkBoards" "DOWN" "[I", Cond.methodLink RX4 138 yX0_many, Cond.instanceMethod yX0_many, Cond.selects RX0 yX0_many yX0_many, Cond.code yX0_many cX0_many 4 (some .int), Cond.methodLink RX0 41 yX0_size, Cond.methodLink RX0 45 yX0_kind]
def wsL_law0_r11 : List Cond := [Cond.methodLink RL 97 yX5_spark, Cond.instanceMethod yX5_spark, Cond.selects RX5 yX5_spark yX5_spark, Cond.code yX5_spark cX5_spark 6 (some .int), Cond.fieldLink RX5 52 "SparkBoardsModel" "STEP" "[I", Cond.methodLink RX5 98 yX5_cells, Cond.instanceMethod yX5_cells, Cond.selects RX5 yX5_cells yX5_cells, Cond.code yX5_cells cX5_cells 4 (some .int), Cond.methodLink RX5 58 yX5_cell, Cond.instanceMethod yX5_cell, Cond.selects RX5 yX5_cell yX5_cell, Cond.code yX5_cell cX5_cell 2 (some .int), Cond.methodLink RL 98 yL_lamp, Cond.static yL_lamp, Cond.codeWith yL_lamp cL_lamp 5 (some .int) [(0, 10, 13, 19), (0, 10, 17, 34)], Cond.methodLink RL 36 yX4_lamp, Cond.instanceMethod yX4_lamp, Cond.selects RX4 yX4_lamp yX4_lamp, Cond.code yX4_lamp cX4_lamp 3 (some .int), Cond.methodLink RX4 141 yX1_many, Cond.instanceMethod yX1_many, Cond.selects RX1 yX1_many yX1_many, Cond.code yX1_many cX1_many 1 (some .int)]
def wsL_law0_r12 : List Cond := [Cond.methodLink RX4 145 yX1_add, Cond.instanceMethod yX1_add, Cond.selects RX1 yX1_add yX1_add, Cond.code yX1_add cX1_add 3 (some .int), Cond.methodLink RL 100 yX5_lamp, Cond.instanceMethod yX5_lamp, Cond.selects RX5 yX5_lamp yX5_lamp, Cond.code yX5_lamp cX5_lamp 3 (some .int), Cond.methodLink RL 101 yL_pass, Cond.static yL_pass, Cond.codeWith yL_pass cL_pass 4 (some .int) [(0, 9, 12, 13)], Cond.methodLink RL 39 yX4_pass, Cond.instanceMethod yX4_pass, Cond.selects RX4 yX4_pass yX4_pass, Cond.code yX4_pass cX4_pass 4 (some .int), Cond.methodLink RX4 150 yX0_step, Cond.instanceMethod yX0_step, Cond.selects RX0 yX0_step yX0_step, Cond.code yX0_step cX0_step 2 none, Cond.methodLink RX0 59 yX0_countHeadsBeside, Cond.instanceMethod yX0_countHeadsBeside, Cond.selects RX0 yX0_countHeadsBeside yX0_countHeadsBeside, Cond.code yX0_countHeadsBeside cX0_countHeadsBeside 3 none, Cond.methodLink RX0 65 yX0_tellNeighbours]
def wsL_law0_r13 : List Cond := [Cond.instanceMethod yX0_tellNeighbours, Cond.selects RX0 yX0_tellNeighbours yX0_tellNeighbours, Cond.code yX0_tellNeighbours cX0_tellNeighbours 5 none, Cond.methodLink RX0 49 yX0_neighbour, Cond.instanceMethod yX0_neighbour, Cond.selects RX0 yX0_neighbour yX0_neighbour, Cond.code yX0_neighbour cX0_neighbour 4 (some .int), Cond.methodLink RX0 62 yX0_next, Cond.static yX0_next, Cond.code yX0_next cX0_next 2 (some .int), Cond.methodLink RX4 153 yX1_light, Cond.instanceMethod yX1_light, Cond.selects RX1 yX1_light yX1_light, Cond.code yX1_light cX1_light 4 none, Cond.methodLink RX1 32 yX1_isAlight, Cond.instanceMethod yX1_isAlight, Cond.selects RX1 yX1_isAlight yX1_isAlight, Cond.code yX1_isAlight cX1_isAlight 3 (some .boolean), Cond.methodLink RX1 36 yX0_cell, Cond.methodLink RX1 42 yX0_kind, Cond.methodLink RL 104 yX5_pass, Cond.instanceMethod yX5_pass, Cond.selects RX5 yX5_pass yX5_pass, Cond.code yX5_pass cX5_pass 3 (some .int)]
def wsL_law0_r14 : List Cond := [Cond.fieldLink RX5 104 "SparkBoardsModel" "steps" "I", Cond.fieldLink RX5 111 "SparkBoardsModel" "added" "I", Cond.methodLink RX5 101 yX5_step, Cond.instanceMethod yX5_step, Cond.selects RX5 yX5_step yX5_step, Cond.code yX5_step cX5_step 2 none, Cond.methodLink RX5 62 yX5_next, Cond.instanceMethod yX5_next, Cond.selects RX5 yX5_next yX5_next, Cond.code yX5_next cX5_next 3 (some .int), Cond.methodLink RX5 55 yX5_around, Cond.instanceMethod yX5_around, Cond.selects RX5 yX5_around yX5_around, Cond.code yX5_around cX5_around 8 (some .int), Cond.methodLink RX5 107 yX5_light, Cond.instanceMethod yX5_light, Cond.selects RX5 yX5_light yX5_light, Cond.code yX5_light cX5_light 3 none, Cond.methodLink RL 105 yL_told, Cond.static yL_told, Cond.codeWith yL_told cL_told 6 (some .int) [(0, 12, 15, 19)], Cond.methodLink RL 43 yX4_told, Cond.instanceMethod yX4_told, Cond.selects RX4 yX4_told yX4_told]
def wsL_law0_r15 : List Cond := [Cond.code yX4_told cX4_told 5 (some .int), Cond.methodLink RX4 159 yX0_headsAround, Cond.instanceMethod yX0_headsAround, Cond.selects RX0 yX0_headsAround yX0_headsAround, Cond.code yX0_headsAround cX0_headsAround 5 (some .int), Cond.methodLink RX4 162 yX0_next, Cond.methodLink RX4 165 yX3_sizeOfPiece, Cond.instanceMethod yX3_sizeOfPiece, Cond.selects RX3 yX3_sizeOfPiece yX3_sizeOfPiece, Cond.code yX3_sizeOfPiece cX3_sizeOfPiece 4 (some .int), Cond.methodLink RX3 21 yX3_forget, Cond.instanceMethod yX3_forget, Cond.selects RX3 yX3_forget yX3_forget, Cond.code yX3_forget cX3_forget 1 none, Cond.methodLink RX3 43 yJ7_fill_53178, Cond.methodLink RX3 24 yX3_reach, Cond.instanceMethod yX3_reach, Cond.selects RX3 yX3_reach yX3_reach, Cond.code yX3_reach cX3_reach 8 (some .int), Cond.methodLink RX3 49 yX3_visit, Cond.instanceMethod yX3_visit, Cond.selects RX3 yX3_visit yX3_visit, Cond.code yX3_visit cX3_visit 7 (some .int), Cond.methodLink RX3 53 yX0_cell]
def wsL_law0_r16 : List Cond := [Cond.methodLink RX3 62 yX0_kind, Cond.methodLink RX4 169 yX0_wiredAround, Cond.instanceMethod yX0_wiredAround, Cond.selects RX0 yX0_wiredAround yX0_wiredAround, Cond.code yX0_wiredAround cX0_wiredAround 5 (some .int), Cond.methodLink RL 107 yX5_told, Cond.instanceMethod yX5_told, Cond.selects RX5 yX5_told yX5_told, Cond.code yX5_told cX5_told 4 (some .int), Cond.methodLink RX5 120 yX5_cellTold, Cond.instanceMethod yX5_cellTold, Cond.selects RX5 yX5_cellTold yX5_cellTold, Cond.code yX5_cellTold cX5_cellTold 3 (some .int), Cond.methodLink RX5 117 yX5_piece, Cond.instanceMethod yX5_piece, Cond.selects RX5 yX5_piece yX5_piece, Cond.code yX5_piece cX5_piece 2 (some .int), Cond.methodLink RX5 114 yX5_spread, Cond.instanceMethod yX5_spread, Cond.selects RX5 yX5_spread yX5_spread, Cond.code yX5_spread cX5_spread 9 (some .int), Cond.methodLink RL 108 yL_about, Cond.static yL_about, Cond.codeWith yL_about cL_about 5 (some .int) [(0, 10, 13, 19)]]
def wsL_law0_r17 : List Cond := [Cond.methodLink RL 46 yX4_about, Cond.instanceMethod yX4_about, Cond.selects RX4 yX4_about yX4_about, Cond.code yX4_about cX4_about 3 (some .int), Cond.methodLink RX4 174 yX1_column, Cond.instanceMethod yX1_column, Cond.selects RX1 yX1_column yX1_column, Cond.code yX1_column cX1_column 2 (some .int), Cond.methodLink RX1 28 yX1_isLamp, Cond.instanceMethod yX1_isLamp, Cond.selects RX1 yX1_isLamp yX1_isLamp, Cond.code yX1_isLamp cX1_isLamp 2 (some .boolean), Cond.methodLink RX4 177 yX1_row, Cond.instanceMethod yX1_row, Cond.selects RX1 yX1_row yX1_row, Cond.code yX1_row cX1_row 2 (some .int), Cond.methodLink RX4 180 yX1_lit, Cond.instanceMethod yX1_lit, Cond.selects RX1 yX1_lit yX1_lit, Cond.code yX1_lit cX1_lit 2 (some .int), Cond.methodLink RX4 183 yX1_latest, Cond.instanceMethod yX1_latest, Cond.selects RX1 yX1_latest yX1_latest, Cond.code yX1_latest cX1_latest 2 (some .int)]
def wsL_law0_r18 : List Cond := [Cond.methodLink RL 110 yX5_about, Cond.instanceMethod yX5_about, Cond.selects RX5 yX5_about yX5_about, Cond.code yX5_about cX5_about 3 (some .int), Cond.methodLink RX5 123 yX5_lampTold, Cond.instanceMethod yX5_lampTold, Cond.selects RX5 yX5_lampTold yX5_lampTold, Cond.code yX5_lampTold cX5_lampTold 4 (some .int), Cond.methodLink RL 111 yL_count, Cond.static yL_count, Cond.codeWith yL_count cL_count 4 (some .int) [(0, 9, 12, 19)], Cond.methodLink RL 49 yX4_count, Cond.instanceMethod yX4_count, Cond.selects RX4 yX4_count yX4_count, Cond.code yX4_count cX4_count 2 (some .int), Cond.methodLink RX4 188 yX0_columns, Cond.instanceMethod yX0_columns, Cond.selects RX0 yX0_columns yX0_columns, Cond.code yX0_columns cX0_columns 1 (some .int), Cond.methodLink RX4 191 yX0_rows, Cond.instanceMethod yX0_rows, Cond.selects RX0 yX0_rows yX0_rows, Cond.code yX0_rows cX0_rows 1 (some .int), Cond.methodLink RX4 194 yX3_pieces]
def wsL_law0_r19 : List Cond := [Cond.instanceMethod yX3_pieces, Cond.selects RX3 yX3_pieces yX3_pieces, Cond.code yX3_pieces cX3_pieces 5 (some .int), Cond.methodLink RX3 28 yX0_rows, Cond.methodLink RX3 34 yX0_columns, Cond.methodLink RX4 198 yX3_sizeOfLongest, Cond.instanceMethod yX3_sizeOfLongest, Cond.selects RX3 yX3_sizeOfLongest yX3_sizeOfLongest, Cond.code yX3_sizeOfLongest cX3_sizeOfLongest 5 (some .int), Cond.methodLink RX3 37 Lib.Math.max.name, Cond.methodLink RX4 201 yX1_litInAll, Cond.instanceMethod yX1_litInAll, Cond.selects RX1 yX1_litInAll yX1_litInAll, Cond.code yX1_litInAll cX1_litInAll 3 (some .int), Cond.methodLink RL 113 yX5_count, Cond.instanceMethod yX5_count, Cond.selects RX5 yX5_count yX5_count, Cond.code yX5_count cX5_count 2 (some .int), Cond.methodLink RX5 137 yX5_counted, Cond.instanceMethod yX5_counted, Cond.selects RX5 yX5_counted yX5_counted, Cond.code yX5_counted cX5_counted 2 (some .int), Cond.methodLink RX5 129 yX5_pieces, Cond.instanceMethod yX5_pieces]
def wsL_law0_r20 : List Cond := [Cond.selects RX5 yX5_pieces yX5_pieces, Cond.code yX5_pieces cX5_pieces 8 (some .int), Cond.methodLink RX5 126 Lib.Math.max.name, Cond.methodLink RX5 133 yX5_lit, Cond.instanceMethod yX5_lit, Cond.selects RX5 yX5_lit yX5_lit, Cond.code yX5_lit cX5_lit 3 (some .int), Cond.methodLink RL 114 yL_way, Cond.static yL_way, Cond.codeWith yL_way cL_way 7 (some .int) [(0, 14, 17, 19)], Cond.methodLink RL 52 yX4_way, Cond.instanceMethod yX4_way, Cond.selects RX4 yX4_way yX4_way, Cond.code yX4_way cX4_way 7 (some .int), Cond.methodLink RX4 204 yX3_far, Cond.instanceMethod yX3_far, Cond.selects RX3 yX3_far yX3_far, Cond.code yX3_far cX3_far 5 (some .int), Cond.methodLink RL 116 yX5_way, Cond.instanceMethod yX5_way, Cond.selects RX5 yX5_way yX5_way, Cond.code yX5_way cX5_way 5 (some .int), Cond.methodLink RL 117 yL_period, Cond.static yL_period]
def wsL_law0_r21 : List Cond := [Cond.codeWith yL_period cL_period 4 (some .int) [(0, 9, 12, 19)], Cond.methodLink RL 55 yX4_period, Cond.instanceMethod yX4_period, Cond.selects RX4 yX4_period yX4_period, Cond.code yX4_period cX4_period 4 (some .int), Cond.methodLink RX4 210 yX0_copy, Cond.instanceMethod yX0_copy, Cond.selects RX0 yX0_copy yX0_copy, Cond.code yX0_copy cX0_copy 2 none, Cond.methodLink RX0 31 arraycopyName, Cond.native arraycopyName, Cond.static arraycopyName, Cond.initialized "java/lang/System", Cond.methodLink RX4 214 yX2_keep, Cond.instanceMethod yX2_keep, Cond.selects RX2 yX2_keep yX2_keep, Cond.code yX2_keep cX2_keep 4 none, Cond.methodLink RX2 15 yX2_packed, Cond.static yX2_packed, Cond.code yX2_packed cX2_packed 5 (some .long), Cond.methodLink RX2 23 yX0_kind, Cond.methodLink RX4 218 yX2_firstLike, Cond.instanceMethod yX2_firstLike, Cond.selects RX2 yX2_firstLike yX2_firstLike]
def wsL_law0_r22 : List Cond := [Cond.code yX2_firstLike cX2_firstLike 3 (some .int), Cond.methodLink RX2 19 yX2_isSame, Cond.instanceMethod yX2_isSame, Cond.selects RX2 yX2_isSame yX2_isSame, Cond.code yX2_isSame cX2_isSame 4 (some .boolean), Cond.methodLink RL 119 yX5_period, Cond.instanceMethod yX5_period, Cond.selects RX5 yX5_period yX5_period, Cond.code yX5_period cX5_period 5 (some .int), Cond.methodLink RX5 68 arraycopyName, Cond.methodLink RX5 140 yX5_keep, Cond.instanceMethod yX5_keep, Cond.selects RX5 yX5_keep yX5_keep, Cond.code yX5_keep cX5_keep 1 none, Cond.methodLink RX5 143 yX5_isAsIt, Cond.instanceMethod yX5_isAsIt, Cond.selects RX5 yX5_isAsIt yX5_isAsIt, Cond.code yX5_isAsIt cX5_isAsIt 3 (some .boolean), Cond.methodLink RX5 147 yX5_bringBack, Cond.instanceMethod yX5_bringBack, Cond.selects RX5 yX5_bringBack yX5_bringBack, Cond.code yX5_bringBack cX5_bringBack 1 none, Cond.methodLink RL 120 yL_until, Cond.static yL_until]
def wsL_law0_r23 : List Cond := [Cond.codeWith yL_until cL_until 5 (some .int) [(0, 10, 13, 19)], Cond.methodLink RL 58 yX4_until, Cond.instanceMethod yX4_until, Cond.selects RX4 yX4_until yX4_until, Cond.code yX4_until cX4_until 5 (some .int), Cond.methodLink RL 122 yX5_until, Cond.instanceMethod yX5_until, Cond.selects RX5 yX5_until yX5_until, Cond.code yX5_until cX5_until 4 (some .int), Cond.methodLink RL 123 yL_foresee, Cond.static yL_foresee, Cond.codeWith yL_foresee cL_foresee 5 (some .int) [(0, 10, 13, 13), (0, 10, 17, 19)], Cond.methodLink RL 61 yX4_foresee, Cond.instanceMethod yX4_foresee, Cond.selects RX4 yX4_foresee yX4_foresee, Cond.code yX4_foresee cX4_foresee 6 (some .int), Cond.methodLink RX4 225 yX1_alight, Cond.instanceMethod yX1_alight, Cond.selects RX1 yX1_alight yX1_alight, Cond.code yX1_alight cX1_alight 4 (some .int), Cond.methodLink RL 125 yX5_foresee, Cond.instanceMethod yX5_foresee, Cond.selects RX5 yX5_foresee yX5_foresee, Cond.code yX5_foresee cX5_foresee 4 (some .int)]
def wsL_law0_r24 : List Cond := [Cond.methodLink RL 126 yL_advise, Cond.static yL_advise, Cond.codeWith yL_advise cL_advise 4 (some .int) [(0, 9, 12, 13)], Cond.methodLink RL 64 yX4_advise, Cond.instanceMethod yX4_advise, Cond.selects RX4 yX4_advise yX4_advise, Cond.code yX4_advise cX4_advise 6 (some .int), Cond.methodLink RX4 230 yX4_headsOfTrial, Cond.instanceMethod yX4_headsOfTrial, Cond.selects RX4 yX4_headsOfTrial yX4_headsOfTrial, Cond.code yX4_headsOfTrial cX4_headsOfTrial 3 (some .int), Cond.methodLink RL 128 yX5_advise, Cond.instanceMethod yX5_advise, Cond.selects RX5 yX5_advise yX5_advise, Cond.code yX5_advise cX5_advise 6 (some .int), Cond.methodLink RX5 150 yX5_heads, Cond.instanceMethod yX5_heads, Cond.selects RX5 yX5_heads yX5_heads, Cond.code yX5_heads cX5_heads 3 (some .int), Cond.methodLink RL 129 yX4_mean, Cond.instanceMethod yX4_mean, Cond.selects RX4 yX4_mean yX4_mean, Cond.code yX4_mean cX4_mean 1 (some .double), Cond.methodLink RL 133 yX5_mean]
def wsL_law0_r25 : List Cond := [Cond.instanceMethod yX5_mean, Cond.selects RX5 yX5_mean yX5_mean, Cond.code yX5_mean cX5_mean 1 (some .double), Cond.methodLink RL 134 yX4_digest, Cond.instanceMethod yX4_digest, Cond.selects RX4 yX4_digest yX4_digest, Cond.code yX4_digest cX4_digest 6 (some .long), Cond.constantLong RX4 233 (1723), Cond.constantLong RX4 235 (31), Cond.methodLink RX4 237 yX4_count, Cond.methodLink RX4 240 yX4_told, Cond.methodLink RX4 244 yX4_about, Cond.methodLink RL 138 yX5_digest, Cond.instanceMethod yX5_digest, Cond.selects RX5 yX5_digest yX5_digest, Cond.code yX5_digest cX5_digest 5 (some .long), Cond.constantLong RX5 153 (1723), Cond.constantLong RX5 155 (31)]
def wsL_law0 : List Cond := (wsL_law0_r1 ++ (wsL_law0_r2 ++ (wsL_law0_r3 ++ (wsL_law0_r4 ++ (wsL_law0_r5 ++ (wsL_law0_r6 ++ (wsL_law0_r7 ++ (wsL_law0_r8 ++ (wsL_law0_r9 ++ (wsL_law0_r10 ++ (wsL_law0_r11 ++ (wsL_law0_r12 ++ (wsL_law0_r13 ++ (wsL_law0_r14 ++ (wsL_law0_r15 ++ (wsL_law0_r16 ++ (wsL_law0_r17 ++ (wsL_law0_r18 ++ (wsL_law0_r19 ++ (wsL_law0_r20 ++ (wsL_law0_r21 ++ (wsL_law0_r22 ++ (wsL_law0_r23 ++ (wsL_law0_r24 ++ wsL_law0_r25)))))))))))))))))))))))) ++ wsX40 ++ wsX50 ++ wsX00 ++ wsX30 ++ wsX10 ++ wsX20 ++ ([] : List Cond)
def wsL_law : List Cond := wsL_law0 ++ (vx_atS RX4 58 "java/lang/IllegalArgumentException" ["java/lang/RuntimeException", "java/lang/Exception"]).filter goodWord ++ (vx_atS RX4 78 "java/lang/IndexOutOfBoundsException" ["java/lang/RuntimeException", "java/lang/Exception"]).filter goodWord ++ (vx_atS RX4 137 "java/lang/IllegalStateException" ["java/lang/RuntimeException", "java/lang/Exception"]).filter goodWord
set_option maxRecDepth 20000 in
theorem wsL_law_in0 : ∀ w ∈ wsL_law0, w ∈ lw_tbl := fun w h => (goodIn_p wsL_law0 [52, 55, 60, 80, 96, 118, 605, 355, 358, 378, 259, 383, 244, 657, 660, 664, 653, 392, 273, 248, 398, 668, 672, 675, 405, 408, 285, 412, 417, 679, 683, 687, 424, 429, 691, 437, 442, 695, 452, 240, 701, 707, 711, 478, 289, 483, 715, 490, 495, 499, 503, 308, 314, 508, 512, 719, 723, 727, 731, 735, 297, 304, 318, 256, 265, 269, 322, 739, 743, 747, 751, 326, 331, 335, 339, 343, 347, 755, 759, 160, 232, 236, 252, 282, 293, 763, 767, 771, 776, 533, 537, 780, 544, 549, 556, 559, 564, 568, 784, 788, 793, 797, 575, 801, 582, 588, 805, 595, 600, 809, 813, 150, 817, 154, 821] (by decide +kernel) (by decide +kernel) w h).1
theorem wsL_law_x0 : ∀ w ∈ (vx_atS RX4 58 "java/lang/IllegalArgumentException" ["java/lang/RuntimeException", "java/lang/Exception"]).filter goodWord, w ∈ lw_tbl := by decide +kernel
theorem wsL_law_x1 : ∀ w ∈ (vx_atS RX4 78 "java/lang/IndexOutOfBoundsException" ["java/lang/RuntimeException", "java/lang/Exception"]).filter goodWord, w ∈ lw_tbl := by decide +kernel
theorem wsL_law_x2 : ∀ w ∈ (vx_atS RX4 137 "java/lang/IllegalStateException" ["java/lang/RuntimeException", "java/lang/Exception"]).filter goodWord, w ∈ lw_tbl := by decide +kernel
theorem wsL_law_in : ∀ w ∈ wsL_law, w ∈ lw_tbl := fun w h => (List.mem_append.mp h).elim (fun h => (List.mem_append.mp h).elim (fun h => (List.mem_append.mp h).elim (fun h => wsL_law_in0 w h) (fun h => wsL_law_x0 w h)) (fun h => wsL_law_x1 w h)) (fun h => wsL_law_x2 w h)
theorem inlX0 : ∀ w ∈ wsX00, w ∈ wsL_law := fun _ h => List.mem_append_left _ (List.mem_append_left _ (List.mem_append_left _ (List.mem_append_left _ (List.mem_append_left _ (List.mem_append_left _ (List.mem_append_left _ (List.mem_append_right _ h)))))))
theorem inX0 : ∀ w ∈ wsX00, w ∈ lw_tbl := fun w h => wsL_law_in w (inlX0 w h)
theorem inlX1 : ∀ w ∈ wsX10, w ∈ wsL_law := fun _ h => List.mem_append_left _ (List.mem_append_left _ (List.mem_append_left _ (List.mem_append_left _ (List.mem_append_left _ (List.mem_append_right _ h)))))
theorem inX1 : ∀ w ∈ wsX10, w ∈ lw_tbl := fun w h => wsL_law_in w (inlX1 w h)
theorem inlX2 : ∀ w ∈ wsX20, w ∈ wsL_law := fun _ h => List.mem_append_left _ (List.mem_append_left _ (List.mem_append_left _ (List.mem_append_left _ (List.mem_append_right _ h))))
theorem inX2 : ∀ w ∈ wsX20, w ∈ lw_tbl := fun w h => wsL_law_in w (inlX2 w h)
theorem inlX3 : ∀ w ∈ wsX30, w ∈ wsL_law := fun _ h => List.mem_append_left _ (List.mem_append_left _ (List.mem_append_left _ (List.mem_append_left _ (List.mem_append_left _ (List.mem_append_left _ (List.mem_append_right _ h))))))
theorem inX3 : ∀ w ∈ wsX30, w ∈ lw_tbl := fun w h => wsL_law_in w (inlX3 w h)
theorem inlX4 : ∀ w ∈ wsX40, w ∈ wsL_law := fun _ h => List.mem_append_left _ (List.mem_append_left _ (List.mem_append_left _ (List.mem_append_left _ (List.mem_append_left _ (List.mem_append_left _ (List.mem_append_left _ (List.mem_append_left _ (List.mem_append_left _ (List.mem_append_right _ h)))))))))
theorem inX4 : ∀ w ∈ wsX40, w ∈ lw_tbl := fun w h => wsL_law_in w (inlX4 w h)
theorem inlX5 : ∀ w ∈ wsX50, w ∈ wsL_law := fun _ h => List.mem_append_left _ (List.mem_append_left _ (List.mem_append_left _ (List.mem_append_left _ (List.mem_append_left _ (List.mem_append_left _ (List.mem_append_left _ (List.mem_append_left _ (List.mem_append_right _ h))))))))
theorem inX5 : ∀ w ∈ wsX50, w ∈ lw_tbl := fun w h => wsL_law_in w (inlX5 w h)
theorem inJx145de : ∀ w ∈ wsJx145de0, w ∈ lw_tbl := by decide +kernel
theorem inJ6 : ∀ w ∈ wsJ60, w ∈ lw_tbl := by decide +kernel
theorem inJ9 : ∀ w ∈ wsJ90, w ∈ lw_tbl := by decide +kernel
theorem inJ0 : ∀ w ∈ wsJ00, w ∈ lw_tbl := by decide +kernel
theorem inJ10 : ∀ w ∈ wsJ100, w ∈ lw_tbl := by decide +kernel
theorem inJ7 : ∀ w ∈ wsJ70, w ∈ lw_tbl := by decide +kernel
theorem dX0_init_0 : decode cX0_init 0 = .ok (.aload_n 0, 1) := by decide +kernel
theorem dX0_init_1 : decode cX0_init 1 = .ok (.invokespecial 3, 3) := by decide +kernel
theorem dX0_init_4 : decode cX0_init 4 = .ok (.aload_n 0, 1) := by decide +kernel
theorem dX0_init_5 : decode cX0_init 5 = .ok (.iload_n 1, 1) := by decide +kernel
theorem dX0_init_6 : decode cX0_init 6 = .ok (.putfield 9, 3) := by decide +kernel
theorem dX0_init_9 : decode cX0_init 9 = .ok (.aload_n 0, 1) := by decide +kernel
theorem dX0_init_10 : decode cX0_init 10 = .ok (.iload_n 2, 1) := by decide +kernel
theorem dX0_init_11 : decode cX0_init 11 = .ok (.putfield 15, 3) := by decide +kernel
theorem dX0_init_14 : decode cX0_init 14 = .ok (.aload_n 0, 1) := by decide +kernel
theorem dX0_init_15 : decode cX0_init 15 = .ok (.bipush 100, 2) := by decide +kernel
theorem dX0_init_17 : decode cX0_init 17 = .ok (.newarray .int, 2) := by decide +kernel
theorem dX0_init_19 : decode cX0_init 19 = .ok (.putfield 18, 3) := by decide +kernel
theorem dX0_init_22 : decode cX0_init 22 = .ok (.aload_n 0, 1) := by decide +kernel
theorem dX0_init_23 : decode cX0_init 23 = .ok (.bipush 100, 2) := by decide +kernel
theorem dX0_init_25 : decode cX0_init 25 = .ok (.newarray .int, 2) := by decide +kernel
theorem dX0_init_27 : decode cX0_init 27 = .ok (.putfield 22, 3) := by decide +kernel
theorem dX0_init_30 : decode cX0_init 30 = .ok (.return_, 1) := by decide +kernel
set_option maxRecDepth 20000 in
theorem ggX0_clear_J7_fill_53178 : GoodIn wsX0_clear wsJ7_fill_53178 := goodIn_r _ [7] (by decide +kernel) (by decide +kernel)
set_option maxRecDepth 20000 in
theorem gX0_clear_J7_fill_53178 : GoodIn wsX0_clear (va_wsS RX0 25 yJ7_fill_53178 wsJ7_fill_53178) := goodIn_app (goodIn_of _ (by decide +kernel)) ggX0_clear_J7_fill_53178
theorem dX0_clear_0 : decode cX0_clear 0 = .ok (.aload_n 0, 1) := by decide +kernel
theorem dX0_clear_1 : decode cX0_clear 1 = .ok (.iload_n 1, 1) := by decide +kernel
theorem dX0_clear_2 : decode cX0_clear 2 = .ok (.putfield 9, 3) := by decide +kernel
theorem dX0_clear_5 : decode cX0_clear 5 = .ok (.aload_n 0, 1) := by decide +kernel
theorem dX0_clear_6 : decode cX0_clear 6 = .ok (.iload_n 2, 1) := by decide +kernel
theorem dX0_clear_7 : decode cX0_clear 7 = .ok (.putfield 15, 3) := by decide +kernel
theorem dX0_clear_10 : decode cX0_clear 10 = .ok (.aload_n 0, 1) := by decide +kernel
theorem dX0_clear_11 : decode cX0_clear 11 = .ok (.getfield 18, 3) := by decide +kernel
theorem dX0_clear_14 : decode cX0_clear 14 = .ok (.iconst 0, 1) := by decide +kernel
theorem dX0_clear_15 : decode cX0_clear 15 = .ok (.invokestatic 25, 3) := by decide +kernel
theorem dX0_clear_18 : decode cX0_clear 18 = .ok (.return_, 1) := by decide +kernel
theorem dX0_copy_0 : decode cX0_copy 0 = .ok (.aload_n 0, 1) := by decide +kernel
theorem dX0_copy_1 : decode cX0_copy 1 = .ok (.aload_n 1, 1) := by decide +kernel
theorem dX0_copy_2 : decode cX0_copy 2 = .ok (.getfield 9, 3) := by decide +kernel
theorem dX0_copy_5 : decode cX0_copy 5 = .ok (.putfield 9, 3) := by decide +kernel
theorem dX0_copy_8 : decode cX0_copy 8 = .ok (.aload_n 0, 1) := by decide +kernel
theorem dX0_copy_9 : decode cX0_copy 9 = .ok (.aload_n 1, 1) := by decide +kernel
theorem dX0_copy_10 : decode cX0_copy 10 = .ok (.getfield 15, 3) := by decide +kernel
theorem dX0_copy_13 : decode cX0_copy 13 = .ok (.putfield 15, 3) := by decide +kernel
theorem dX0_copy_16 : decode cX0_copy 16 = .ok (.aload_n 1, 1) := by decide +kernel
theorem dX0_copy_17 : decode cX0_copy 17 = .ok (.getfield 18, 3) := by decide +kernel
theorem dX0_copy_20 : decode cX0_copy 20 = .ok (.iconst 0, 1) := by decide +kernel
theorem dX0_copy_21 : decode cX0_copy 21 = .ok (.aload_n 0, 1) := by decide +kernel
theorem dX0_copy_22 : decode cX0_copy 22 = .ok (.getfield 18, 3) := by decide +kernel
theorem dX0_copy_25 : decode cX0_copy 25 = .ok (.iconst 0, 1) := by decide +kernel
theorem dX0_copy_26 : decode cX0_copy 26 = .ok (.bipush 100, 2) := by decide +kernel
theorem dX0_copy_28 : decode cX0_copy 28 = .ok (.invokestatic 31, 3) := by decide +kernel
theorem dX0_copy_31 : decode cX0_copy 31 = .ok (.return_, 1) := by decide +kernel
theorem dX0_columns_0 : decode cX0_columns 0 = .ok (.aload_n 0, 1) := by decide +kernel
theorem dX0_columns_1 : decode cX0_columns 1 = .ok (.getfield 9, 3) := by decide +kernel
theorem dX0_columns_4 : decode cX0_columns 4 = .ok (.ireturn, 1) := by decide +kernel
theorem dX0_rows_0 : decode cX0_rows 0 = .ok (.aload_n 0, 1) := by decide +kernel
theorem dX0_rows_1 : decode cX0_rows 1 = .ok (.getfield 15, 3) := by decide +kernel
theorem dX0_rows_4 : decode cX0_rows 4 = .ok (.ireturn, 1) := by decide +kernel
theorem dX0_size_0 : decode cX0_size 0 = .ok (.aload_n 0, 1) := by decide +kernel
theorem dX0_size_1 : decode cX0_size 1 = .ok (.getfield 9, 3) := by decide +kernel
theorem dX0_size_4 : decode cX0_size 4 = .ok (.aload_n 0, 1) := by decide +kernel
theorem dX0_size_5 : decode cX0_size 5 = .ok (.getfield 15, 3) := by decide +kernel
theorem dX0_size_8 : decode cX0_size 8 = .ok (.imul, 1) := by decide +kernel
theorem dX0_size_9 : decode cX0_size 9 = .ok (.ireturn, 1) := by decide +kernel
theorem dX0_cell_0 : decode cX0_cell 0 = .ok (.iload_n 1, 1) := by decide +kernel
theorem dX0_cell_1 : decode cX0_cell 1 = .ok (.ifCond .lt 23, 3) := by decide +kernel
theorem dX0_cell_4 : decode cX0_cell 4 = .ok (.iload_n 1, 1) := by decide +kernel
theorem dX0_cell_5 : decode cX0_cell 5 = .ok (.aload_n 0, 1) := by decide +kernel
theorem dX0_cell_6 : decode cX0_cell 6 = .ok (.getfield 9, 3) := by decide +kernel
theorem dX0_cell_9 : decode cX0_cell 9 = .ok (.if_icmp .ge 15, 3) := by decide +kernel
theorem dX0_cell_12 : decode cX0_cell 12 = .ok (.iload_n 2, 1) := by decide +kernel
theorem dX0_cell_13 : decode cX0_cell 13 = .ok (.ifCond .lt 11, 3) := by decide +kernel
theorem dX0_cell_16 : decode cX0_cell 16 = .ok (.iload_n 2, 1) := by decide +kernel
theorem dX0_cell_17 : decode cX0_cell 17 = .ok (.aload_n 0, 1) := by decide +kernel
theorem dX0_cell_18 : decode cX0_cell 18 = .ok (.getfield 15, 3) := by decide +kernel
theorem dX0_cell_21 : decode cX0_cell 21 = .ok (.if_icmp .lt 5, 3) := by decide +kernel
theorem dX0_cell_24 : decode cX0_cell 24 = .ok (.iconst (-1), 1) := by decide +kernel
theorem dX0_cell_25 : decode cX0_cell 25 = .ok (.ireturn, 1) := by decide +kernel
theorem dX0_cell_26 : decode cX0_cell 26 = .ok (.aload_n 0, 1) := by decide +kernel
theorem dX0_cell_27 : decode cX0_cell 27 = .ok (.getfield 9, 3) := by decide +kernel
theorem dX0_cell_30 : decode cX0_cell 30 = .ok (.iload_n 2, 1) := by decide +kernel
theorem dX0_cell_31 : decode cX0_cell 31 = .ok (.imul, 1) := by decide +kernel
theorem dX0_cell_32 : decode cX0_cell 32 = .ok (.iload_n 1, 1) := by decide +kernel
theorem dX0_cell_33 : decode cX0_cell 33 = .ok (.iadd, 1) := by decide +kernel
theorem dX0_cell_34 : decode cX0_cell 34 = .ok (.ireturn, 1) := by decide +kernel
set_option maxRecDepth 20000 in
theorem ggX0_holds_X0_cell : GoodIn wsX0_holds wsX0_cell := goodIn_r _ [7, 1, 2, 8, 9, 10, 11] (by decide +kernel) (by decide +kernel)
set_option maxRecDepth 20000 in
theorem gX0_holds_X0_cell : GoodIn wsX0_holds (wsV RX0 37 RX0 yX0_cell wsX0_cell) := goodIn_app (goodIn_of _ (by decide +kernel)) ggX0_holds_X0_cell
theorem dX0_holds_0 : decode cX0_holds 0 = .ok (.aload_n 0, 1) := by decide +kernel
theorem dX0_holds_1 : decode cX0_holds 1 = .ok (.iload_n 1, 1) := by decide +kernel
theorem dX0_holds_2 : decode cX0_holds 2 = .ok (.iload_n 2, 1) := by decide +kernel
theorem dX0_holds_3 : decode cX0_holds 3 = .ok (.invokevirtual 37, 3) := by decide +kernel
theorem dX0_holds_6 : decode cX0_holds 6 = .ok (.iconst (-1), 1) := by decide +kernel
theorem dX0_holds_7 : decode cX0_holds 7 = .ok (.if_icmp .eq 28, 3) := by decide +kernel
theorem dX0_holds_10 : decode cX0_holds 10 = .ok (.iload_n 3, 1) := by decide +kernel
theorem dX0_holds_11 : decode cX0_holds 11 = .ok (.aload_n 0, 1) := by decide +kernel
theorem dX0_holds_12 : decode cX0_holds 12 = .ok (.getfield 9, 3) := by decide +kernel
theorem dX0_holds_15 : decode cX0_holds 15 = .ok (.iload_n 1, 1) := by decide +kernel
theorem dX0_holds_16 : decode cX0_holds 16 = .ok (.isub, 1) := by decide +kernel
theorem dX0_holds_17 : decode cX0_holds 17 = .ok (.if_icmp .gt 18, 3) := by decide +kernel
theorem dX0_holds_20 : decode cX0_holds 20 = .ok (.iload 4, 2) := by decide +kernel
theorem dX0_holds_22 : decode cX0_holds 22 = .ok (.aload_n 0, 1) := by decide +kernel
theorem dX0_holds_23 : decode cX0_holds 23 = .ok (.getfield 15, 3) := by decide +kernel
theorem dX0_holds_26 : decode cX0_holds 26 = .ok (.iload_n 2, 1) := by decide +kernel
theorem dX0_holds_27 : decode cX0_holds 27 = .ok (.isub, 1) := by decide +kernel
theorem dX0_holds_28 : decode cX0_holds 28 = .ok (.if_icmp .gt 7, 3) := by decide +kernel
theorem dX0_holds_31 : decode cX0_holds 31 = .ok (.iconst 1, 1) := by decide +kernel
theorem dX0_holds_32 : decode cX0_holds 32 = .ok (.goto 4, 3) := by decide +kernel
theorem dX0_holds_35 : decode cX0_holds 35 = .ok (.iconst 0, 1) := by decide +kernel
theorem dX0_holds_36 : decode cX0_holds 36 = .ok (.ireturn, 1) := by decide +kernel
theorem dX0_kind_0 : decode cX0_kind 0 = .ok (.iload_n 1, 1) := by decide +kernel
theorem dX0_kind_1 : decode cX0_kind 1 = .ok (.ifCond .lt 18, 3) := by decide +kernel
theorem dX0_kind_4 : decode cX0_kind 4 = .ok (.iload_n 1, 1) := by decide +kernel
theorem dX0_kind_5 : decode cX0_kind 5 = .ok (.bipush 100, 2) := by decide +kernel
theorem dX0_kind_7 : decode cX0_kind 7 = .ok (.if_icmp .ge 12, 3) := by decide +kernel
theorem dX0_kind_10 : decode cX0_kind 10 = .ok (.aload_n 0, 1) := by decide +kernel
theorem dX0_kind_11 : decode cX0_kind 11 = .ok (.getfield 18, 3) := by decide +kernel
theorem dX0_kind_14 : decode cX0_kind 14 = .ok (.iload_n 1, 1) := by decide +kernel
theorem dX0_kind_15 : decode cX0_kind 15 = .ok (.iaload, 1) := by decide +kernel
theorem dX0_kind_16 : decode cX0_kind 16 = .ok (.goto 4, 3) := by decide +kernel
theorem dX0_kind_19 : decode cX0_kind 19 = .ok (.iconst 0, 1) := by decide +kernel
theorem dX0_kind_20 : decode cX0_kind 20 = .ok (.ireturn, 1) := by decide +kernel
theorem dX0_put_0 : decode cX0_put 0 = .ok (.iload_n 1, 1) := by decide +kernel
theorem dX0_put_1 : decode cX0_put 1 = .ok (.ifCond .lt 16, 3) := by decide +kernel
theorem dX0_put_4 : decode cX0_put 4 = .ok (.iload_n 1, 1) := by decide +kernel
theorem dX0_put_5 : decode cX0_put 5 = .ok (.bipush 100, 2) := by decide +kernel
theorem dX0_put_7 : decode cX0_put 7 = .ok (.if_icmp .ge 10, 3) := by decide +kernel
theorem dX0_put_10 : decode cX0_put 10 = .ok (.aload_n 0, 1) := by decide +kernel
theorem dX0_put_11 : decode cX0_put 11 = .ok (.getfield 18, 3) := by decide +kernel
theorem dX0_put_14 : decode cX0_put 14 = .ok (.iload_n 1, 1) := by decide +kernel
theorem dX0_put_15 : decode cX0_put 15 = .ok (.iload_n 2, 1) := by decide +kernel
theorem dX0_put_16 : decode cX0_put 16 = .ok (.iastore, 1) := by decide +kernel
theorem dX0_put_17 : decode cX0_put 17 = .ok (.return_, 1) := by decide +kernel
set_option maxRecDepth 20000 in
theorem ggX0_many_X0_size : GoodIn wsX0_many wsX0_size := goodIn_r _ [5, 6, 7, 13, 14, 15, 16] (by decide +kernel) (by decide +kernel)
set_option maxRecDepth 20000 in
theorem gX0_many_X0_size : GoodIn wsX0_many (wsV RX0 41 RX0 yX0_size wsX0_size) := goodIn_app (goodIn_of _ (by decide +kernel)) ggX0_many_X0_size
set_option maxRecDepth 20000 in
theorem ggX0_many_X0_kind : GoodIn wsX0_many wsX0_kind := goodIn_r _ [11, 12, 13, 14, 15, 16] (by decide +kernel) (by decide +kernel)
set_option maxRecDepth 20000 in
theorem gX0_many_X0_kind : GoodIn wsX0_many (wsV RX0 45 RX0 yX0_kind wsX0_kind) := goodIn_app (goodIn_of _ (by decide +kernel)) ggX0_many_X0_kind
theorem dX0_many_0 : decode cX0_many 0 = .ok (.iconst 0, 1) := by decide +kernel
theorem dX0_many_1 : decode cX0_many 1 = .ok (.istore_n 2, 1) := by decide +kernel
theorem dX0_many_2 : decode cX0_many 2 = .ok (.iconst 0, 1) := by decide +kernel
theorem dX0_many_3 : decode cX0_many 3 = .ok (.istore_n 3, 1) := by decide +kernel
theorem dX0_many_4 : decode cX0_many 4 = .ok (.iload_n 3, 1) := by decide +kernel
theorem dX0_many_5 : decode cX0_many 5 = .ok (.aload_n 0, 1) := by decide +kernel
theorem dX0_many_6 : decode cX0_many 6 = .ok (.invokevirtual 41, 3) := by decide +kernel
theorem dX0_many_9 : decode cX0_many 9 = .ok (.if_icmp .ge 21, 3) := by decide +kernel
theorem dX0_many_12 : decode cX0_many 12 = .ok (.aload_n 0, 1) := by decide +kernel
theorem dX0_many_13 : decode cX0_many 13 = .ok (.iload_n 3, 1) := by decide +kernel
theorem dX0_many_14 : decode cX0_many 14 = .ok (.invokevirtual 45, 3) := by decide +kernel
theorem dX0_many_17 : decode cX0_many 17 = .ok (.iload_n 1, 1) := by decide +kernel
theorem dX0_many_18 : decode cX0_many 18 = .ok (.if_icmp .ne 6, 3) := by decide +kernel
theorem dX0_many_21 : decode cX0_many 21 = .ok (.iinc 2 1, 3) := by decide +kernel
theorem dX0_many_24 : decode cX0_many 24 = .ok (.iinc 3 1, 3) := by decide +kernel
theorem dX0_many_27 : decode cX0_many 27 = .ok (.goto (-23), 3) := by decide +kernel
theorem dX0_many_30 : decode cX0_many 30 = .ok (.iload_n 2, 1) := by decide +kernel
theorem dX0_many_31 : decode cX0_many 31 = .ok (.ireturn, 1) := by decide +kernel
set_option maxRecDepth 20000 in
theorem ggX0_headsAround_X0_neighbour : GoodIn wsX0_headsAround wsX0_neighbour := goodIn_r _ [5, 6, 7, 8, 4, 9, 10, 11, 17, 18, 19, 20] (by decide +kernel) (by decide +kernel)
set_option maxRecDepth 20000 in
theorem gX0_headsAround_X0_neighbour : GoodIn wsX0_headsAround (wsV RX0 49 RX0 yX0_neighbour wsX0_neighbour) := goodIn_app (goodIn_of _ (by decide +kernel)) ggX0_headsAround_X0_neighbour
set_option maxRecDepth 20000 in
theorem ggX0_headsAround_X0_kind : GoodIn wsX0_headsAround wsX0_kind := goodIn_r _ [15, 16, 17, 18, 19, 20] (by decide +kernel) (by decide +kernel)
set_option maxRecDepth 20000 in
theorem gX0_headsAround_X0_kind : GoodIn wsX0_headsAround (wsV RX0 45 RX0 yX0_kind wsX0_kind) := goodIn_app (goodIn_of _ (by decide +kernel)) ggX0_headsAround_X0_kind
theorem dX0_headsAround_0 : decode cX0_headsAround 0 = .ok (.iconst 0, 1) := by decide +kernel
theorem dX0_headsAround_1 : decode cX0_headsAround 1 = .ok (.istore_n 3, 1) := by decide +kernel
theorem dX0_headsAround_2 : decode cX0_headsAround 2 = .ok (.iconst 0, 1) := by decide +kernel
theorem dX0_headsAround_3 : decode cX0_headsAround 3 = .ok (.istore 4, 2) := by decide +kernel
theorem dX0_headsAround_5 : decode cX0_headsAround 5 = .ok (.iload 4, 2) := by decide +kernel
theorem dX0_headsAround_7 : decode cX0_headsAround 7 = .ok (.bipush 8, 2) := by decide +kernel
theorem dX0_headsAround_9 : decode cX0_headsAround 9 = .ok (.if_icmp .ge 28, 3) := by decide +kernel
theorem dX0_headsAround_12 : decode cX0_headsAround 12 = .ok (.aload_n 0, 1) := by decide +kernel
theorem dX0_headsAround_13 : decode cX0_headsAround 13 = .ok (.aload_n 0, 1) := by decide +kernel
theorem dX0_headsAround_14 : decode cX0_headsAround 14 = .ok (.iload_n 1, 1) := by decide +kernel
theorem dX0_headsAround_15 : decode cX0_headsAround 15 = .ok (.iload_n 2, 1) := by decide +kernel
theorem dX0_headsAround_16 : decode cX0_headsAround 16 = .ok (.iload 4, 2) := by decide +kernel
theorem dX0_headsAround_18 : decode cX0_headsAround 18 = .ok (.invokevirtual 49, 3) := by decide +kernel
theorem dX0_headsAround_21 : decode cX0_headsAround 21 = .ok (.invokevirtual 45, 3) := by decide +kernel
theorem dX0_headsAround_24 : decode cX0_headsAround 24 = .ok (.iconst 2, 1) := by decide +kernel
theorem dX0_headsAround_25 : decode cX0_headsAround 25 = .ok (.if_icmp .ne 6, 3) := by decide +kernel
theorem dX0_headsAround_28 : decode cX0_headsAround 28 = .ok (.iinc 3 1, 3) := by decide +kernel
theorem dX0_headsAround_31 : decode cX0_headsAround 31 = .ok (.iinc 4 1, 3) := by decide +kernel
theorem dX0_headsAround_34 : decode cX0_headsAround 34 = .ok (.goto (-29), 3) := by decide +kernel
theorem dX0_headsAround_37 : decode cX0_headsAround 37 = .ok (.iload_n 3, 1) := by decide +kernel
theorem dX0_headsAround_38 : decode cX0_headsAround 38 = .ok (.ireturn, 1) := by decide +kernel
set_option maxRecDepth 20000 in
theorem ggX0_wiredAround_X0_neighbour : GoodIn wsX0_wiredAround wsX0_neighbour := goodIn_r _ [5, 6, 7, 8, 4, 9, 10, 11, 17, 18, 19, 20] (by decide +kernel) (by decide +kernel)
set_option maxRecDepth 20000 in
theorem gX0_wiredAround_X0_neighbour : GoodIn wsX0_wiredAround (wsV RX0 49 RX0 yX0_neighbour wsX0_neighbour) := goodIn_app (goodIn_of _ (by decide +kernel)) ggX0_wiredAround_X0_neighbour
set_option maxRecDepth 20000 in
theorem ggX0_wiredAround_X0_kind : GoodIn wsX0_wiredAround wsX0_kind := goodIn_r _ [15, 16, 17, 18, 19, 20] (by decide +kernel) (by decide +kernel)
set_option maxRecDepth 20000 in
theorem gX0_wiredAround_X0_kind : GoodIn wsX0_wiredAround (wsV RX0 45 RX0 yX0_kind wsX0_kind) := goodIn_app (goodIn_of _ (by decide +kernel)) ggX0_wiredAround_X0_kind
theorem dX0_wiredAround_0 : decode cX0_wiredAround 0 = .ok (.iconst 0, 1) := by decide +kernel
theorem dX0_wiredAround_1 : decode cX0_wiredAround 1 = .ok (.istore_n 3, 1) := by decide +kernel
theorem dX0_wiredAround_2 : decode cX0_wiredAround 2 = .ok (.iconst 0, 1) := by decide +kernel
theorem dX0_wiredAround_3 : decode cX0_wiredAround 3 = .ok (.istore 4, 2) := by decide +kernel
theorem dX0_wiredAround_5 : decode cX0_wiredAround 5 = .ok (.iload 4, 2) := by decide +kernel
theorem dX0_wiredAround_7 : decode cX0_wiredAround 7 = .ok (.bipush 8, 2) := by decide +kernel
theorem dX0_wiredAround_9 : decode cX0_wiredAround 9 = .ok (.if_icmp .ge 27, 3) := by decide +kernel
theorem dX0_wiredAround_12 : decode cX0_wiredAround 12 = .ok (.aload_n 0, 1) := by decide +kernel
theorem dX0_wiredAround_13 : decode cX0_wiredAround 13 = .ok (.aload_n 0, 1) := by decide +kernel
theorem dX0_wiredAround_14 : decode cX0_wiredAround 14 = .ok (.iload_n 1, 1) := by decide +kernel
theorem dX0_wiredAround_15 : decode cX0_wiredAround 15 = .ok (.iload_n 2, 1) := by decide +kernel
theorem dX0_wiredAround_16 : decode cX0_wiredAround 16 = .ok (.iload 4, 2) := by decide +kernel
theorem dX0_wiredAround_18 : decode cX0_wiredAround 18 = .ok (.invokevirtual 49, 3) := by decide +kernel
theorem dX0_wiredAround_21 : decode cX0_wiredAround 21 = .ok (.invokevirtual 45, 3) := by decide +kernel
theorem dX0_wiredAround_24 : decode cX0_wiredAround 24 = .ok (.ifCond .eq 6, 3) := by decide +kernel
theorem dX0_wiredAround_27 : decode cX0_wiredAround 27 = .ok (.iinc 3 1, 3) := by decide +kernel
theorem dX0_wiredAround_30 : decode cX0_wiredAround 30 = .ok (.iinc 4 1, 3) := by decide +kernel
theorem dX0_wiredAround_33 : decode cX0_wiredAround 33 = .ok (.goto (-28), 3) := by decide +kernel
theorem dX0_wiredAround_36 : decode cX0_wiredAround 36 = .ok (.iload_n 3, 1) := by decide +kernel
theorem dX0_wiredAround_37 : decode cX0_wiredAround 37 = .ok (.ireturn, 1) := by decide +kernel
set_option maxRecDepth 20000 in
theorem ggX0_neighbour_X0_cell : GoodIn wsX0_neighbour wsX0_cell := goodIn_r _ [5, 6, 7, 8, 9, 10, 11] (by decide +kernel) (by decide +kernel)
set_option maxRecDepth 20000 in
theorem gX0_neighbour_X0_cell : GoodIn wsX0_neighbour (wsV RX0 37 RX0 yX0_cell wsX0_cell) := goodIn_app (goodIn_of _ (by decide +kernel)) ggX0_neighbour_X0_cell
theorem dX0_neighbour_0 : decode cX0_neighbour 0 = .ok (.aload_n 0, 1) := by decide +kernel
theorem dX0_neighbour_1 : decode cX0_neighbour 1 = .ok (.iload_n 1, 1) := by decide +kernel
theorem dX0_neighbour_2 : decode cX0_neighbour 2 = .ok (.getstatic 53, 3) := by decide +kernel
theorem dX0_neighbour_5 : decode cX0_neighbour 5 = .ok (.iload_n 3, 1) := by decide +kernel
theorem dX0_neighbour_6 : decode cX0_neighbour 6 = .ok (.iaload, 1) := by decide +kernel
theorem dX0_neighbour_7 : decode cX0_neighbour 7 = .ok (.iadd, 1) := by decide +kernel
theorem dX0_neighbour_8 : decode cX0_neighbour 8 = .ok (.iload_n 2, 1) := by decide +kernel
theorem dX0_neighbour_9 : decode cX0_neighbour 9 = .ok (.getstatic 56, 3) := by decide +kernel
theorem dX0_neighbour_12 : decode cX0_neighbour 12 = .ok (.iload_n 3, 1) := by decide +kernel
theorem dX0_neighbour_13 : decode cX0_neighbour 13 = .ok (.iaload, 1) := by decide +kernel
theorem dX0_neighbour_14 : decode cX0_neighbour 14 = .ok (.iadd, 1) := by decide +kernel
theorem dX0_neighbour_15 : decode cX0_neighbour 15 = .ok (.invokevirtual 37, 3) := by decide +kernel
theorem dX0_neighbour_18 : decode cX0_neighbour 18 = .ok (.ireturn, 1) := by decide +kernel
theorem dX0_next_0 : decode cX0_next 0 = .ok (.iload_n 0, 1) := by decide +kernel
theorem dX0_next_1 : decode cX0_next 1 = .ok (.tableswitch 47 1 3 #[31, 27, 29], 27) := by decide +kernel
theorem dX0_next_28 : decode cX0_next 28 = .ok (.iconst 3, 1) := by decide +kernel
theorem dX0_next_29 : decode cX0_next 29 = .ok (.ireturn, 1) := by decide +kernel
theorem dX0_next_30 : decode cX0_next 30 = .ok (.iconst 1, 1) := by decide +kernel
theorem dX0_next_31 : decode cX0_next 31 = .ok (.ireturn, 1) := by decide +kernel
theorem dX0_next_32 : decode cX0_next 32 = .ok (.iload_n 1, 1) := by decide +kernel
theorem dX0_next_33 : decode cX0_next 33 = .ok (.iconst 1, 1) := by decide +kernel
theorem dX0_next_34 : decode cX0_next 34 = .ok (.if_icmp .eq 8, 3) := by decide +kernel
theorem dX0_next_37 : decode cX0_next 37 = .ok (.iload_n 1, 1) := by decide +kernel
theorem dX0_next_38 : decode cX0_next 38 = .ok (.iconst 2, 1) := by decide +kernel
theorem dX0_next_39 : decode cX0_next 39 = .ok (.if_icmp .ne 7, 3) := by decide +kernel
theorem dX0_next_42 : decode cX0_next 42 = .ok (.iconst 2, 1) := by decide +kernel
theorem dX0_next_43 : decode cX0_next 43 = .ok (.goto 4, 3) := by decide +kernel
theorem dX0_next_46 : decode cX0_next 46 = .ok (.iconst 1, 1) := by decide +kernel
theorem dX0_next_47 : decode cX0_next 47 = .ok (.ireturn, 1) := by decide +kernel
theorem dX0_next_48 : decode cX0_next 48 = .ok (.iconst 0, 1) := by decide +kernel
theorem dX0_next_49 : decode cX0_next 49 = .ok (.ireturn, 1) := by decide +kernel
set_option maxRecDepth 20000 in
theorem ggX0_step_X0_countHeadsBeside : GoodIn wsX0_step wsX0_countHeadsBeside := goodIn_r _ [7, 2, 8, 9, 10, 11, 12, 13, 14, 15, 16, 6, 17, 18, 19, 20, 21, 1, 22, 23, 24, 25, 26, 27, 28, 29, 37, 38, 39, 40] (by decide +kernel) (by decide +kernel)
set_option maxRecDepth 20000 in
theorem gX0_step_X0_countHeadsBeside : GoodIn wsX0_step (wsV RX0 59 RX0 yX0_countHeadsBeside wsX0_countHeadsBeside) := goodIn_app (goodIn_of _ (by decide +kernel)) ggX0_step_X0_countHeadsBeside
set_option maxRecDepth 20000 in
theorem ggX0_step_X0_size : GoodIn wsX0_step wsX0_size := goodIn_r _ [33, 9, 8, 37, 38, 39, 40] (by decide +kernel) (by decide +kernel)
set_option maxRecDepth 20000 in
theorem gX0_step_X0_size : GoodIn wsX0_step (wsV RX0 41 RX0 yX0_size wsX0_size) := goodIn_app (goodIn_of _ (by decide +kernel)) ggX0_step_X0_size
set_option maxRecDepth 20000 in
theorem ggX0_step_X0_next : GoodIn wsX0_step wsX0_next := goodIn_r _ [36] (by decide +kernel) (by decide +kernel)
set_option maxRecDepth 20000 in
theorem gX0_step_X0_next : GoodIn wsX0_step (va_wsS RX0 62 yX0_next wsX0_next) := goodIn_app (goodIn_of _ (by decide +kernel)) ggX0_step_X0_next
theorem dX0_step_0 : decode cX0_step 0 = .ok (.aload_n 0, 1) := by decide +kernel
theorem dX0_step_1 : decode cX0_step 1 = .ok (.invokevirtual 59, 3) := by decide +kernel
theorem dX0_step_4 : decode cX0_step 4 = .ok (.iconst 0, 1) := by decide +kernel
theorem dX0_step_5 : decode cX0_step 5 = .ok (.istore_n 1, 1) := by decide +kernel
theorem dX0_step_6 : decode cX0_step 6 = .ok (.iload_n 1, 1) := by decide +kernel
theorem dX0_step_7 : decode cX0_step 7 = .ok (.aload_n 0, 1) := by decide +kernel
theorem dX0_step_8 : decode cX0_step 8 = .ok (.invokevirtual 41, 3) := by decide +kernel
theorem dX0_step_11 : decode cX0_step 11 = .ok (.if_icmp .ge 30, 3) := by decide +kernel
theorem dX0_step_14 : decode cX0_step 14 = .ok (.aload_n 0, 1) := by decide +kernel
theorem dX0_step_15 : decode cX0_step 15 = .ok (.getfield 18, 3) := by decide +kernel
theorem dX0_step_18 : decode cX0_step 18 = .ok (.iload_n 1, 1) := by decide +kernel
theorem dX0_step_19 : decode cX0_step 19 = .ok (.aload_n 0, 1) := by decide +kernel
theorem dX0_step_20 : decode cX0_step 20 = .ok (.getfield 18, 3) := by decide +kernel
theorem dX0_step_23 : decode cX0_step 23 = .ok (.iload_n 1, 1) := by decide +kernel
theorem dX0_step_24 : decode cX0_step 24 = .ok (.iaload, 1) := by decide +kernel
theorem dX0_step_25 : decode cX0_step 25 = .ok (.aload_n 0, 1) := by decide +kernel
theorem dX0_step_26 : decode cX0_step 26 = .ok (.getfield 22, 3) := by decide +kernel
theorem dX0_step_29 : decode cX0_step 29 = .ok (.iload_n 1, 1) := by decide +kernel
theorem dX0_step_30 : decode cX0_step 30 = .ok (.iaload, 1) := by decide +kernel
theorem dX0_step_31 : decode cX0_step 31 = .ok (.invokestatic 62, 3) := by decide +kernel
theorem dX0_step_34 : decode cX0_step 34 = .ok (.iastore, 1) := by decide +kernel
theorem dX0_step_35 : decode cX0_step 35 = .ok (.iinc 1 1, 3) := by decide +kernel
theorem dX0_step_38 : decode cX0_step 38 = .ok (.goto (-32), 3) := by decide +kernel
theorem dX0_step_41 : decode cX0_step 41 = .ok (.return_, 1) := by decide +kernel
set_option maxRecDepth 20000 in
theorem ggX0_countHeadsBeside_J7_fill_53178 : GoodIn wsX0_countHeadsBeside wsJ7_fill_53178 := goodIn_r _ [7] (by decide +kernel) (by decide +kernel)
set_option maxRecDepth 20000 in
theorem gX0_countHeadsBeside_J7_fill_53178 : GoodIn wsX0_countHeadsBeside (va_wsS RX0 25 yJ7_fill_53178 wsJ7_fill_53178) := goodIn_app (goodIn_of _ (by decide +kernel)) ggX0_countHeadsBeside_J7_fill_53178
set_option maxRecDepth 20000 in
theorem ggX0_countHeadsBeside_X0_cell : GoodIn wsX0_countHeadsBeside wsX0_cell := goodIn_r _ [12, 3, 2, 26, 27, 28, 29] (by decide +kernel) (by decide +kernel)
set_option maxRecDepth 20000 in
theorem gX0_countHeadsBeside_X0_cell : GoodIn wsX0_countHeadsBeside (wsV RX0 37 RX0 yX0_cell wsX0_cell) := goodIn_app (goodIn_of _ (by decide +kernel)) ggX0_countHeadsBeside_X0_cell
set_option maxRecDepth 20000 in
theorem ggX0_countHeadsBeside_X0_kind : GoodIn wsX0_countHeadsBeside wsX0_kind := goodIn_r _ [16, 17, 26, 27, 28, 29] (by decide +kernel) (by decide +kernel)
set_option maxRecDepth 20000 in
theorem gX0_countHeadsBeside_X0_kind : GoodIn wsX0_countHeadsBeside (wsV RX0 45 RX0 yX0_kind wsX0_kind) := goodIn_app (goodIn_of _ (by decide +kernel)) ggX0_countHeadsBeside_X0_kind
set_option maxRecDepth 20000 in
theorem ggX0_countHeadsBeside_X0_tellNeighbours : GoodIn wsX0_countHeadsBeside wsX0_tellNeighbours := goodIn_r _ [21, 1, 22, 23, 24, 11, 25, 8, 9, 10, 12, 3, 2, 26, 27, 28, 29] (by decide +kernel) (by decide +kernel)
set_option maxRecDepth 20000 in
theorem gX0_countHeadsBeside_X0_tellNeighbours : GoodIn wsX0_countHeadsBeside (wsV RX0 65 RX0 yX0_tellNeighbours wsX0_tellNeighbours) := goodIn_app (goodIn_of _ (by decide +kernel)) ggX0_countHeadsBeside_X0_tellNeighbours
theorem dX0_countHeadsBeside_0 : decode cX0_countHeadsBeside 0 = .ok (.aload_n 0, 1) := by decide +kernel
theorem dX0_countHeadsBeside_1 : decode cX0_countHeadsBeside 1 = .ok (.getfield 22, 3) := by decide +kernel
theorem dX0_countHeadsBeside_4 : decode cX0_countHeadsBeside 4 = .ok (.iconst 0, 1) := by decide +kernel
theorem dX0_countHeadsBeside_5 : decode cX0_countHeadsBeside 5 = .ok (.invokestatic 25, 3) := by decide +kernel
theorem dX0_countHeadsBeside_8 : decode cX0_countHeadsBeside 8 = .ok (.iconst 0, 1) := by decide +kernel
theorem dX0_countHeadsBeside_9 : decode cX0_countHeadsBeside 9 = .ok (.istore_n 1, 1) := by decide +kernel
theorem dX0_countHeadsBeside_10 : decode cX0_countHeadsBeside 10 = .ok (.iload_n 1, 1) := by decide +kernel
theorem dX0_countHeadsBeside_11 : decode cX0_countHeadsBeside 11 = .ok (.aload_n 0, 1) := by decide +kernel
theorem dX0_countHeadsBeside_12 : decode cX0_countHeadsBeside 12 = .ok (.getfield 15, 3) := by decide +kernel
theorem dX0_countHeadsBeside_15 : decode cX0_countHeadsBeside 15 = .ok (.if_icmp .ge 45, 3) := by decide +kernel
theorem dX0_countHeadsBeside_18 : decode cX0_countHeadsBeside 18 = .ok (.iconst 0, 1) := by decide +kernel
theorem dX0_countHeadsBeside_19 : decode cX0_countHeadsBeside 19 = .ok (.istore_n 2, 1) := by decide +kernel
theorem dX0_countHeadsBeside_20 : decode cX0_countHeadsBeside 20 = .ok (.iload_n 2, 1) := by decide +kernel
theorem dX0_countHeadsBeside_21 : decode cX0_countHeadsBeside 21 = .ok (.aload_n 0, 1) := by decide +kernel
theorem dX0_countHeadsBeside_22 : decode cX0_countHeadsBeside 22 = .ok (.getfield 9, 3) := by decide +kernel
theorem dX0_countHeadsBeside_25 : decode cX0_countHeadsBeside 25 = .ok (.if_icmp .ge 29, 3) := by decide +kernel
theorem dX0_countHeadsBeside_28 : decode cX0_countHeadsBeside 28 = .ok (.aload_n 0, 1) := by decide +kernel
theorem dX0_countHeadsBeside_29 : decode cX0_countHeadsBeside 29 = .ok (.aload_n 0, 1) := by decide +kernel
theorem dX0_countHeadsBeside_30 : decode cX0_countHeadsBeside 30 = .ok (.iload_n 2, 1) := by decide +kernel
theorem dX0_countHeadsBeside_31 : decode cX0_countHeadsBeside 31 = .ok (.iload_n 1, 1) := by decide +kernel
theorem dX0_countHeadsBeside_32 : decode cX0_countHeadsBeside 32 = .ok (.invokevirtual 37, 3) := by decide +kernel
theorem dX0_countHeadsBeside_35 : decode cX0_countHeadsBeside 35 = .ok (.invokevirtual 45, 3) := by decide +kernel
theorem dX0_countHeadsBeside_38 : decode cX0_countHeadsBeside 38 = .ok (.iconst 2, 1) := by decide +kernel
theorem dX0_countHeadsBeside_39 : decode cX0_countHeadsBeside 39 = .ok (.if_icmp .ne 9, 3) := by decide +kernel
theorem dX0_countHeadsBeside_42 : decode cX0_countHeadsBeside 42 = .ok (.aload_n 0, 1) := by decide +kernel
theorem dX0_countHeadsBeside_43 : decode cX0_countHeadsBeside 43 = .ok (.iload_n 2, 1) := by decide +kernel
theorem dX0_countHeadsBeside_44 : decode cX0_countHeadsBeside 44 = .ok (.iload_n 1, 1) := by decide +kernel
theorem dX0_countHeadsBeside_45 : decode cX0_countHeadsBeside 45 = .ok (.invokevirtual 65, 3) := by decide +kernel
theorem dX0_countHeadsBeside_48 : decode cX0_countHeadsBeside 48 = .ok (.iinc 2 1, 3) := by decide +kernel
theorem dX0_countHeadsBeside_51 : decode cX0_countHeadsBeside 51 = .ok (.goto (-31), 3) := by decide +kernel
theorem dX0_countHeadsBeside_54 : decode cX0_countHeadsBeside 54 = .ok (.iinc 1 1, 3) := by decide +kernel
theorem dX0_countHeadsBeside_57 : decode cX0_countHeadsBeside 57 = .ok (.goto (-47), 3) := by decide +kernel
theorem dX0_countHeadsBeside_60 : decode cX0_countHeadsBeside 60 = .ok (.return_, 1) := by decide +kernel
set_option maxRecDepth 20000 in
theorem ggX0_tellNeighbours_X0_neighbour : GoodIn wsX0_tellNeighbours wsX0_neighbour := goodIn_r _ [6, 7, 8, 9, 5, 10, 11, 12, 13, 14, 15, 16] (by decide +kernel) (by decide +kernel)
set_option maxRecDepth 20000 in
theorem gX0_tellNeighbours_X0_neighbour : GoodIn wsX0_tellNeighbours (wsV RX0 49 RX0 yX0_neighbour wsX0_neighbour) := goodIn_app (goodIn_of _ (by decide +kernel)) ggX0_tellNeighbours_X0_neighbour
theorem dX0_tellNeighbours_0 : decode cX0_tellNeighbours 0 = .ok (.iconst 0, 1) := by decide +kernel
theorem dX0_tellNeighbours_1 : decode cX0_tellNeighbours 1 = .ok (.istore_n 3, 1) := by decide +kernel
theorem dX0_tellNeighbours_2 : decode cX0_tellNeighbours 2 = .ok (.iload_n 3, 1) := by decide +kernel
theorem dX0_tellNeighbours_3 : decode cX0_tellNeighbours 3 = .ok (.bipush 8, 2) := by decide +kernel
theorem dX0_tellNeighbours_5 : decode cX0_tellNeighbours 5 = .ok (.if_icmp .ge 35, 3) := by decide +kernel
theorem dX0_tellNeighbours_8 : decode cX0_tellNeighbours 8 = .ok (.aload_n 0, 1) := by decide +kernel
theorem dX0_tellNeighbours_9 : decode cX0_tellNeighbours 9 = .ok (.iload_n 1, 1) := by decide +kernel
theorem dX0_tellNeighbours_10 : decode cX0_tellNeighbours 10 = .ok (.iload_n 2, 1) := by decide +kernel
theorem dX0_tellNeighbours_11 : decode cX0_tellNeighbours 11 = .ok (.iload_n 3, 1) := by decide +kernel
theorem dX0_tellNeighbours_12 : decode cX0_tellNeighbours 12 = .ok (.invokevirtual 49, 3) := by decide +kernel
theorem dX0_tellNeighbours_15 : decode cX0_tellNeighbours 15 = .ok (.istore 4, 2) := by decide +kernel
theorem dX0_tellNeighbours_17 : decode cX0_tellNeighbours 17 = .ok (.iload 4, 2) := by decide +kernel
theorem dX0_tellNeighbours_19 : decode cX0_tellNeighbours 19 = .ok (.iconst (-1), 1) := by decide +kernel
theorem dX0_tellNeighbours_20 : decode cX0_tellNeighbours 20 = .ok (.if_icmp .eq 14, 3) := by decide +kernel
theorem dX0_tellNeighbours_23 : decode cX0_tellNeighbours 23 = .ok (.aload_n 0, 1) := by decide +kernel
theorem dX0_tellNeighbours_24 : decode cX0_tellNeighbours 24 = .ok (.getfield 22, 3) := by decide +kernel
theorem dX0_tellNeighbours_27 : decode cX0_tellNeighbours 27 = .ok (.iload 4, 2) := by decide +kernel
theorem dX0_tellNeighbours_29 : decode cX0_tellNeighbours 29 = .ok (.dup2, 1) := by decide +kernel
theorem dX0_tellNeighbours_30 : decode cX0_tellNeighbours 30 = .ok (.iaload, 1) := by decide +kernel
theorem dX0_tellNeighbours_31 : decode cX0_tellNeighbours 31 = .ok (.iconst 1, 1) := by decide +kernel
theorem dX0_tellNeighbours_32 : decode cX0_tellNeighbours 32 = .ok (.iadd, 1) := by decide +kernel
theorem dX0_tellNeighbours_33 : decode cX0_tellNeighbours 33 = .ok (.iastore, 1) := by decide +kernel
theorem dX0_tellNeighbours_34 : decode cX0_tellNeighbours 34 = .ok (.iinc 3 1, 3) := by decide +kernel
theorem dX0_tellNeighbours_37 : decode cX0_tellNeighbours 37 = .ok (.goto (-35), 3) := by decide +kernel
theorem dX0_tellNeighbours_40 : decode cX0_tellNeighbours 40 = .ok (.return_, 1) := by decide +kernel
theorem dX1_init_0 : decode cX1_init 0 = .ok (.aload_n 0, 1) := by decide +kernel
theorem dX1_init_1 : decode cX1_init 1 = .ok (.invokespecial 3, 3) := by decide +kernel
theorem dX1_init_4 : decode cX1_init 4 = .ok (.aload_n 0, 1) := by decide +kernel
theorem dX1_init_5 : decode cX1_init 5 = .ok (.iconst 0, 1) := by decide +kernel
theorem dX1_init_6 : decode cX1_init 6 = .ok (.putfield 9, 3) := by decide +kernel
theorem dX1_init_9 : decode cX1_init 9 = .ok (.aload_n 0, 1) := by decide +kernel
theorem dX1_init_10 : decode cX1_init 10 = .ok (.iconst 5, 1) := by decide +kernel
theorem dX1_init_11 : decode cX1_init 11 = .ok (.newarray .int, 2) := by decide +kernel
theorem dX1_init_13 : decode cX1_init 13 = .ok (.putfield 15, 3) := by decide +kernel
theorem dX1_init_16 : decode cX1_init 16 = .ok (.aload_n 0, 1) := by decide +kernel
theorem dX1_init_17 : decode cX1_init 17 = .ok (.iconst 5, 1) := by decide +kernel
theorem dX1_init_18 : decode cX1_init 18 = .ok (.newarray .int, 2) := by decide +kernel
theorem dX1_init_20 : decode cX1_init 20 = .ok (.putfield 19, 3) := by decide +kernel
theorem dX1_init_23 : decode cX1_init 23 = .ok (.aload_n 0, 1) := by decide +kernel
theorem dX1_init_24 : decode cX1_init 24 = .ok (.iconst 5, 1) := by decide +kernel
theorem dX1_init_25 : decode cX1_init 25 = .ok (.newarray .int, 2) := by decide +kernel
theorem dX1_init_27 : decode cX1_init 27 = .ok (.putfield 22, 3) := by decide +kernel
theorem dX1_init_30 : decode cX1_init 30 = .ok (.aload_n 0, 1) := by decide +kernel
theorem dX1_init_31 : decode cX1_init 31 = .ok (.iconst 5, 1) := by decide +kernel
theorem dX1_init_32 : decode cX1_init 32 = .ok (.newarray .int, 2) := by decide +kernel
theorem dX1_init_34 : decode cX1_init 34 = .ok (.putfield 25, 3) := by decide +kernel
theorem dX1_init_37 : decode cX1_init 37 = .ok (.return_, 1) := by decide +kernel
theorem dX1_clear_0 : decode cX1_clear 0 = .ok (.aload_n 0, 1) := by decide +kernel
theorem dX1_clear_1 : decode cX1_clear 1 = .ok (.iconst 0, 1) := by decide +kernel
theorem dX1_clear_2 : decode cX1_clear 2 = .ok (.putfield 9, 3) := by decide +kernel
theorem dX1_clear_5 : decode cX1_clear 5 = .ok (.return_, 1) := by decide +kernel
theorem dX1_many_0 : decode cX1_many 0 = .ok (.aload_n 0, 1) := by decide +kernel
theorem dX1_many_1 : decode cX1_many 1 = .ok (.getfield 9, 3) := by decide +kernel
theorem dX1_many_4 : decode cX1_many 4 = .ok (.ireturn, 1) := by decide +kernel
theorem dX1_add_0 : decode cX1_add 0 = .ok (.aload_n 0, 1) := by decide +kernel
theorem dX1_add_1 : decode cX1_add 1 = .ok (.getfield 9, 3) := by decide +kernel
theorem dX1_add_4 : decode cX1_add 4 = .ok (.iconst 5, 1) := by decide +kernel
theorem dX1_add_5 : decode cX1_add 5 = .ok (.if_icmp .lt 5, 3) := by decide +kernel
theorem dX1_add_8 : decode cX1_add 8 = .ok (.iconst (-1), 1) := by decide +kernel
theorem dX1_add_9 : decode cX1_add 9 = .ok (.ireturn, 1) := by decide +kernel
theorem dX1_add_10 : decode cX1_add 10 = .ok (.aload_n 0, 1) := by decide +kernel
theorem dX1_add_11 : decode cX1_add 11 = .ok (.getfield 15, 3) := by decide +kernel
theorem dX1_add_14 : decode cX1_add 14 = .ok (.aload_n 0, 1) := by decide +kernel
theorem dX1_add_15 : decode cX1_add 15 = .ok (.getfield 9, 3) := by decide +kernel
theorem dX1_add_18 : decode cX1_add 18 = .ok (.iload_n 1, 1) := by decide +kernel
theorem dX1_add_19 : decode cX1_add 19 = .ok (.iastore, 1) := by decide +kernel
theorem dX1_add_20 : decode cX1_add 20 = .ok (.aload_n 0, 1) := by decide +kernel
theorem dX1_add_21 : decode cX1_add 21 = .ok (.getfield 19, 3) := by decide +kernel
theorem dX1_add_24 : decode cX1_add 24 = .ok (.aload_n 0, 1) := by decide +kernel
theorem dX1_add_25 : decode cX1_add 25 = .ok (.getfield 9, 3) := by decide +kernel
theorem dX1_add_28 : decode cX1_add 28 = .ok (.iload_n 2, 1) := by decide +kernel
theorem dX1_add_29 : decode cX1_add 29 = .ok (.iastore, 1) := by decide +kernel
theorem dX1_add_30 : decode cX1_add 30 = .ok (.aload_n 0, 1) := by decide +kernel
theorem dX1_add_31 : decode cX1_add 31 = .ok (.getfield 22, 3) := by decide +kernel
theorem dX1_add_34 : decode cX1_add 34 = .ok (.aload_n 0, 1) := by decide +kernel
theorem dX1_add_35 : decode cX1_add 35 = .ok (.getfield 9, 3) := by decide +kernel
theorem dX1_add_38 : decode cX1_add 38 = .ok (.iconst 0, 1) := by decide +kernel
theorem dX1_add_39 : decode cX1_add 39 = .ok (.iastore, 1) := by decide +kernel
theorem dX1_add_40 : decode cX1_add 40 = .ok (.aload_n 0, 1) := by decide +kernel
theorem dX1_add_41 : decode cX1_add 41 = .ok (.getfield 25, 3) := by decide +kernel
theorem dX1_add_44 : decode cX1_add 44 = .ok (.aload_n 0, 1) := by decide +kernel
theorem dX1_add_45 : decode cX1_add 45 = .ok (.getfield 9, 3) := by decide +kernel
theorem dX1_add_48 : decode cX1_add 48 = .ok (.iconst 0, 1) := by decide +kernel
theorem dX1_add_49 : decode cX1_add 49 = .ok (.iastore, 1) := by decide +kernel
theorem dX1_add_50 : decode cX1_add 50 = .ok (.aload_n 0, 1) := by decide +kernel
theorem dX1_add_51 : decode cX1_add 51 = .ok (.dup, 1) := by decide +kernel
theorem dX1_add_52 : decode cX1_add 52 = .ok (.getfield 9, 3) := by decide +kernel
theorem dX1_add_55 : decode cX1_add 55 = .ok (.iconst 1, 1) := by decide +kernel
theorem dX1_add_56 : decode cX1_add 56 = .ok (.iadd, 1) := by decide +kernel
theorem dX1_add_57 : decode cX1_add 57 = .ok (.putfield 9, 3) := by decide +kernel
theorem dX1_add_60 : decode cX1_add 60 = .ok (.aload_n 0, 1) := by decide +kernel
theorem dX1_add_61 : decode cX1_add 61 = .ok (.getfield 9, 3) := by decide +kernel
theorem dX1_add_64 : decode cX1_add 64 = .ok (.iconst 1, 1) := by decide +kernel
theorem dX1_add_65 : decode cX1_add 65 = .ok (.isub, 1) := by decide +kernel
theorem dX1_add_66 : decode cX1_add 66 = .ok (.ireturn, 1) := by decide +kernel
set_option maxRecDepth 20000 in
theorem ggX1_column_X1_isLamp : GoodIn wsX1_column wsX1_isLamp := goodIn_r _ [6, 7, 8, 9, 10, 11, 12] (by decide +kernel) (by decide +kernel)
set_option maxRecDepth 20000 in
theorem gX1_column_X1_isLamp : GoodIn wsX1_column (wsV RX1 28 RX1 yX1_isLamp wsX1_isLamp) := goodIn_app (goodIn_of _ (by decide +kernel)) ggX1_column_X1_isLamp
theorem dX1_column_0 : decode cX1_column 0 = .ok (.aload_n 0, 1) := by decide +kernel
theorem dX1_column_1 : decode cX1_column 1 = .ok (.iload_n 1, 1) := by decide +kernel
theorem dX1_column_2 : decode cX1_column 2 = .ok (.invokevirtual 28, 3) := by decide +kernel
theorem dX1_column_5 : decode cX1_column 5 = .ok (.ifCond .eq 12, 3) := by decide +kernel
theorem dX1_column_8 : decode cX1_column 8 = .ok (.aload_n 0, 1) := by decide +kernel
theorem dX1_column_9 : decode cX1_column 9 = .ok (.getfield 15, 3) := by decide +kernel
theorem dX1_column_12 : decode cX1_column 12 = .ok (.iload_n 1, 1) := by decide +kernel
theorem dX1_column_13 : decode cX1_column 13 = .ok (.iaload, 1) := by decide +kernel
theorem dX1_column_14 : decode cX1_column 14 = .ok (.goto 4, 3) := by decide +kernel
theorem dX1_column_17 : decode cX1_column 17 = .ok (.iconst 0, 1) := by decide +kernel
theorem dX1_column_18 : decode cX1_column 18 = .ok (.ireturn, 1) := by decide +kernel
set_option maxRecDepth 20000 in
theorem ggX1_row_X1_isLamp : GoodIn wsX1_row wsX1_isLamp := goodIn_r _ [6, 7, 8, 9, 10, 11, 12] (by decide +kernel) (by decide +kernel)
set_option maxRecDepth 20000 in
theorem gX1_row_X1_isLamp : GoodIn wsX1_row (wsV RX1 28 RX1 yX1_isLamp wsX1_isLamp) := goodIn_app (goodIn_of _ (by decide +kernel)) ggX1_row_X1_isLamp
theorem dX1_row_0 : decode cX1_row 0 = .ok (.aload_n 0, 1) := by decide +kernel
theorem dX1_row_1 : decode cX1_row 1 = .ok (.iload_n 1, 1) := by decide +kernel
theorem dX1_row_2 : decode cX1_row 2 = .ok (.invokevirtual 28, 3) := by decide +kernel
theorem dX1_row_5 : decode cX1_row 5 = .ok (.ifCond .eq 12, 3) := by decide +kernel
theorem dX1_row_8 : decode cX1_row 8 = .ok (.aload_n 0, 1) := by decide +kernel
theorem dX1_row_9 : decode cX1_row 9 = .ok (.getfield 19, 3) := by decide +kernel
theorem dX1_row_12 : decode cX1_row 12 = .ok (.iload_n 1, 1) := by decide +kernel
theorem dX1_row_13 : decode cX1_row 13 = .ok (.iaload, 1) := by decide +kernel
theorem dX1_row_14 : decode cX1_row 14 = .ok (.goto 4, 3) := by decide +kernel
theorem dX1_row_17 : decode cX1_row 17 = .ok (.iconst 0, 1) := by decide +kernel
theorem dX1_row_18 : decode cX1_row 18 = .ok (.ireturn, 1) := by decide +kernel
set_option maxRecDepth 20000 in
theorem ggX1_lit_X1_isLamp : GoodIn wsX1_lit wsX1_isLamp := goodIn_r _ [6, 7, 8, 9, 10, 11, 12] (by decide +kernel) (by decide +kernel)
set_option maxRecDepth 20000 in
theorem gX1_lit_X1_isLamp : GoodIn wsX1_lit (wsV RX1 28 RX1 yX1_isLamp wsX1_isLamp) := goodIn_app (goodIn_of _ (by decide +kernel)) ggX1_lit_X1_isLamp
theorem dX1_lit_0 : decode cX1_lit 0 = .ok (.aload_n 0, 1) := by decide +kernel
theorem dX1_lit_1 : decode cX1_lit 1 = .ok (.iload_n 1, 1) := by decide +kernel
theorem dX1_lit_2 : decode cX1_lit 2 = .ok (.invokevirtual 28, 3) := by decide +kernel
theorem dX1_lit_5 : decode cX1_lit 5 = .ok (.ifCond .eq 12, 3) := by decide +kernel
theorem dX1_lit_8 : decode cX1_lit 8 = .ok (.aload_n 0, 1) := by decide +kernel
theorem dX1_lit_9 : decode cX1_lit 9 = .ok (.getfield 22, 3) := by decide +kernel
theorem dX1_lit_12 : decode cX1_lit 12 = .ok (.iload_n 1, 1) := by decide +kernel
theorem dX1_lit_13 : decode cX1_lit 13 = .ok (.iaload, 1) := by decide +kernel
theorem dX1_lit_14 : decode cX1_lit 14 = .ok (.goto 4, 3) := by decide +kernel
theorem dX1_lit_17 : decode cX1_lit 17 = .ok (.iconst 0, 1) := by decide +kernel
theorem dX1_lit_18 : decode cX1_lit 18 = .ok (.ireturn, 1) := by decide +kernel
set_option maxRecDepth 20000 in
theorem ggX1_latest_X1_isLamp : GoodIn wsX1_latest wsX1_isLamp := goodIn_r _ [6, 7, 8, 9, 10, 11, 12] (by decide +kernel) (by decide +kernel)
set_option maxRecDepth 20000 in
theorem gX1_latest_X1_isLamp : GoodIn wsX1_latest (wsV RX1 28 RX1 yX1_isLamp wsX1_isLamp) := goodIn_app (goodIn_of _ (by decide +kernel)) ggX1_latest_X1_isLamp
theorem dX1_latest_0 : decode cX1_latest 0 = .ok (.aload_n 0, 1) := by decide +kernel
theorem dX1_latest_1 : decode cX1_latest 1 = .ok (.iload_n 1, 1) := by decide +kernel
theorem dX1_latest_2 : decode cX1_latest 2 = .ok (.invokevirtual 28, 3) := by decide +kernel
theorem dX1_latest_5 : decode cX1_latest 5 = .ok (.ifCond .eq 12, 3) := by decide +kernel
theorem dX1_latest_8 : decode cX1_latest 8 = .ok (.aload_n 0, 1) := by decide +kernel
theorem dX1_latest_9 : decode cX1_latest 9 = .ok (.getfield 25, 3) := by decide +kernel
theorem dX1_latest_12 : decode cX1_latest 12 = .ok (.iload_n 1, 1) := by decide +kernel
theorem dX1_latest_13 : decode cX1_latest 13 = .ok (.iaload, 1) := by decide +kernel
theorem dX1_latest_14 : decode cX1_latest 14 = .ok (.goto 4, 3) := by decide +kernel
theorem dX1_latest_17 : decode cX1_latest 17 = .ok (.iconst 0, 1) := by decide +kernel
theorem dX1_latest_18 : decode cX1_latest 18 = .ok (.ireturn, 1) := by decide +kernel
theorem dX1_litInAll_0 : decode cX1_litInAll 0 = .ok (.iconst 0, 1) := by decide +kernel
theorem dX1_litInAll_1 : decode cX1_litInAll 1 = .ok (.istore_n 1, 1) := by decide +kernel
theorem dX1_litInAll_2 : decode cX1_litInAll 2 = .ok (.iconst 0, 1) := by decide +kernel
theorem dX1_litInAll_3 : decode cX1_litInAll 3 = .ok (.istore_n 2, 1) := by decide +kernel
theorem dX1_litInAll_4 : decode cX1_litInAll 4 = .ok (.iload_n 2, 1) := by decide +kernel
theorem dX1_litInAll_5 : decode cX1_litInAll 5 = .ok (.aload_n 0, 1) := by decide +kernel
theorem dX1_litInAll_6 : decode cX1_litInAll 6 = .ok (.getfield 9, 3) := by decide +kernel
theorem dX1_litInAll_9 : decode cX1_litInAll 9 = .ok (.if_icmp .ge 18, 3) := by decide +kernel
theorem dX1_litInAll_12 : decode cX1_litInAll 12 = .ok (.iload_n 1, 1) := by decide +kernel
theorem dX1_litInAll_13 : decode cX1_litInAll 13 = .ok (.aload_n 0, 1) := by decide +kernel
theorem dX1_litInAll_14 : decode cX1_litInAll 14 = .ok (.getfield 22, 3) := by decide +kernel
theorem dX1_litInAll_17 : decode cX1_litInAll 17 = .ok (.iload_n 2, 1) := by decide +kernel
theorem dX1_litInAll_18 : decode cX1_litInAll 18 = .ok (.iaload, 1) := by decide +kernel
theorem dX1_litInAll_19 : decode cX1_litInAll 19 = .ok (.iadd, 1) := by decide +kernel
theorem dX1_litInAll_20 : decode cX1_litInAll 20 = .ok (.istore_n 1, 1) := by decide +kernel
theorem dX1_litInAll_21 : decode cX1_litInAll 21 = .ok (.iinc 2 1, 3) := by decide +kernel
theorem dX1_litInAll_24 : decode cX1_litInAll 24 = .ok (.goto (-20), 3) := by decide +kernel
theorem dX1_litInAll_27 : decode cX1_litInAll 27 = .ok (.iload_n 1, 1) := by decide +kernel
theorem dX1_litInAll_28 : decode cX1_litInAll 28 = .ok (.ireturn, 1) := by decide +kernel
set_option maxRecDepth 20000 in
theorem ggX1_alight_X1_isAlight : GoodIn wsX1_alight wsX1_isAlight := goodIn_r _ [6, 7, 8, 9, 10, 11, 12, 13, 14, 15, 16, 17, 18, 19, 20, 21, 22, 23, 24, 25, 26, 27, 28, 29] (by decide +kernel) (by decide +kernel)
set_option maxRecDepth 20000 in
theorem gX1_alight_X1_isAlight : GoodIn wsX1_alight (wsV RX1 32 RX1 yX1_isAlight wsX1_isAlight) := goodIn_app (goodIn_of _ (by decide +kernel)) ggX1_alight_X1_isAlight
theorem dX1_alight_0 : decode cX1_alight 0 = .ok (.iconst 0, 1) := by decide +kernel
theorem dX1_alight_1 : decode cX1_alight 1 = .ok (.istore_n 2, 1) := by decide +kernel
theorem dX1_alight_2 : decode cX1_alight 2 = .ok (.iconst 0, 1) := by decide +kernel
theorem dX1_alight_3 : decode cX1_alight 3 = .ok (.istore_n 3, 1) := by decide +kernel
theorem dX1_alight_4 : decode cX1_alight 4 = .ok (.iload_n 3, 1) := by decide +kernel
theorem dX1_alight_5 : decode cX1_alight 5 = .ok (.aload_n 0, 1) := by decide +kernel
theorem dX1_alight_6 : decode cX1_alight 6 = .ok (.getfield 9, 3) := by decide +kernel
theorem dX1_alight_9 : decode cX1_alight 9 = .ok (.if_icmp .ge 21, 3) := by decide +kernel
theorem dX1_alight_12 : decode cX1_alight 12 = .ok (.aload_n 0, 1) := by decide +kernel
theorem dX1_alight_13 : decode cX1_alight 13 = .ok (.aload_n 1, 1) := by decide +kernel
theorem dX1_alight_14 : decode cX1_alight 14 = .ok (.iload_n 3, 1) := by decide +kernel
theorem dX1_alight_15 : decode cX1_alight 15 = .ok (.invokevirtual 32, 3) := by decide +kernel
theorem dX1_alight_18 : decode cX1_alight 18 = .ok (.ifCond .eq 6, 3) := by decide +kernel
theorem dX1_alight_21 : decode cX1_alight 21 = .ok (.iinc 2 1, 3) := by decide +kernel
theorem dX1_alight_24 : decode cX1_alight 24 = .ok (.iinc 3 1, 3) := by decide +kernel
theorem dX1_alight_27 : decode cX1_alight 27 = .ok (.goto (-23), 3) := by decide +kernel
theorem dX1_alight_30 : decode cX1_alight 30 = .ok (.iload_n 2, 1) := by decide +kernel
theorem dX1_alight_31 : decode cX1_alight 31 = .ok (.ireturn, 1) := by decide +kernel
set_option maxRecDepth 20000 in
theorem ggX1_light_X1_isAlight : GoodIn wsX1_light wsX1_isAlight := goodIn_r _ [8, 9, 10, 11, 12, 13, 14, 15, 16, 17, 18, 19, 20, 21, 22, 23, 24, 25, 26, 27, 28, 29, 30, 31] (by decide +kernel) (by decide +kernel)
set_option maxRecDepth 20000 in
theorem gX1_light_X1_isAlight : GoodIn wsX1_light (wsV RX1 32 RX1 yX1_isAlight wsX1_isAlight) := goodIn_app (goodIn_of _ (by decide +kernel)) ggX1_light_X1_isAlight
theorem dX1_light_0 : decode cX1_light 0 = .ok (.iconst 0, 1) := by decide +kernel
theorem dX1_light_1 : decode cX1_light 1 = .ok (.istore_n 3, 1) := by decide +kernel
theorem dX1_light_2 : decode cX1_light 2 = .ok (.iload_n 3, 1) := by decide +kernel
theorem dX1_light_3 : decode cX1_light 3 = .ok (.aload_n 0, 1) := by decide +kernel
theorem dX1_light_4 : decode cX1_light 4 = .ok (.getfield 9, 3) := by decide +kernel
theorem dX1_light_7 : decode cX1_light 7 = .ok (.if_icmp .ge 35, 3) := by decide +kernel
theorem dX1_light_10 : decode cX1_light 10 = .ok (.aload_n 0, 1) := by decide +kernel
theorem dX1_light_11 : decode cX1_light 11 = .ok (.aload_n 1, 1) := by decide +kernel
theorem dX1_light_12 : decode cX1_light 12 = .ok (.iload_n 3, 1) := by decide +kernel
theorem dX1_light_13 : decode cX1_light 13 = .ok (.invokevirtual 32, 3) := by decide +kernel
theorem dX1_light_16 : decode cX1_light 16 = .ok (.ifCond .eq 20, 3) := by decide +kernel
theorem dX1_light_19 : decode cX1_light 19 = .ok (.aload_n 0, 1) := by decide +kernel
theorem dX1_light_20 : decode cX1_light 20 = .ok (.getfield 22, 3) := by decide +kernel
theorem dX1_light_23 : decode cX1_light 23 = .ok (.iload_n 3, 1) := by decide +kernel
theorem dX1_light_24 : decode cX1_light 24 = .ok (.dup2, 1) := by decide +kernel
theorem dX1_light_25 : decode cX1_light 25 = .ok (.iaload, 1) := by decide +kernel
theorem dX1_light_26 : decode cX1_light 26 = .ok (.iconst 1, 1) := by decide +kernel
theorem dX1_light_27 : decode cX1_light 27 = .ok (.iadd, 1) := by decide +kernel
theorem dX1_light_28 : decode cX1_light 28 = .ok (.iastore, 1) := by decide +kernel
theorem dX1_light_29 : decode cX1_light 29 = .ok (.aload_n 0, 1) := by decide +kernel
theorem dX1_light_30 : decode cX1_light 30 = .ok (.getfield 25, 3) := by decide +kernel
theorem dX1_light_33 : decode cX1_light 33 = .ok (.iload_n 3, 1) := by decide +kernel
theorem dX1_light_34 : decode cX1_light 34 = .ok (.iload_n 2, 1) := by decide +kernel
theorem dX1_light_35 : decode cX1_light 35 = .ok (.iastore, 1) := by decide +kernel
theorem dX1_light_36 : decode cX1_light 36 = .ok (.iinc 3 1, 3) := by decide +kernel
theorem dX1_light_39 : decode cX1_light 39 = .ok (.goto (-37), 3) := by decide +kernel
theorem dX1_light_42 : decode cX1_light 42 = .ok (.return_, 1) := by decide +kernel
theorem dX1_isLamp_0 : decode cX1_isLamp 0 = .ok (.iload_n 1, 1) := by decide +kernel
theorem dX1_isLamp_1 : decode cX1_isLamp 1 = .ok (.ifCond .lt 15, 3) := by decide +kernel
theorem dX1_isLamp_4 : decode cX1_isLamp 4 = .ok (.iload_n 1, 1) := by decide +kernel
theorem dX1_isLamp_5 : decode cX1_isLamp 5 = .ok (.aload_n 0, 1) := by decide +kernel
theorem dX1_isLamp_6 : decode cX1_isLamp 6 = .ok (.getfield 9, 3) := by decide +kernel
theorem dX1_isLamp_9 : decode cX1_isLamp 9 = .ok (.if_icmp .ge 7, 3) := by decide +kernel
theorem dX1_isLamp_12 : decode cX1_isLamp 12 = .ok (.iconst 1, 1) := by decide +kernel
theorem dX1_isLamp_13 : decode cX1_isLamp 13 = .ok (.goto 4, 3) := by decide +kernel
theorem dX1_isLamp_16 : decode cX1_isLamp 16 = .ok (.iconst 0, 1) := by decide +kernel
theorem dX1_isLamp_17 : decode cX1_isLamp 17 = .ok (.ireturn, 1) := by decide +kernel
set_option maxRecDepth 20000 in
theorem ggX1_isAlight_X0_cell : GoodIn wsX1_isAlight wsX0_cell := goodIn_r _ [7, 8, 9, 20, 21, 22, 23] (by decide +kernel) (by decide +kernel)
set_option maxRecDepth 20000 in
theorem gX1_isAlight_X0_cell : GoodIn wsX1_isAlight (wsV RX1 36 RX0 yX0_cell wsX0_cell) := goodIn_app (goodIn_of _ (by decide +kernel)) ggX1_isAlight_X0_cell
set_option maxRecDepth 20000 in
theorem ggX1_isAlight_X0_kind : GoodIn wsX1_isAlight wsX0_kind := goodIn_r _ [13, 14, 20, 21, 22, 23] (by decide +kernel) (by decide +kernel)
set_option maxRecDepth 20000 in
theorem gX1_isAlight_X0_kind : GoodIn wsX1_isAlight (wsV RX1 42 RX0 yX0_kind wsX0_kind) := goodIn_app (goodIn_of _ (by decide +kernel)) ggX1_isAlight_X0_kind
theorem dX1_isAlight_0 : decode cX1_isAlight 0 = .ok (.aload_n 1, 1) := by decide +kernel
theorem dX1_isAlight_1 : decode cX1_isAlight 1 = .ok (.aload_n 1, 1) := by decide +kernel
theorem dX1_isAlight_2 : decode cX1_isAlight 2 = .ok (.aload_n 0, 1) := by decide +kernel
theorem dX1_isAlight_3 : decode cX1_isAlight 3 = .ok (.getfield 15, 3) := by decide +kernel
theorem dX1_isAlight_6 : decode cX1_isAlight 6 = .ok (.iload_n 2, 1) := by decide +kernel
theorem dX1_isAlight_7 : decode cX1_isAlight 7 = .ok (.iaload, 1) := by decide +kernel
theorem dX1_isAlight_8 : decode cX1_isAlight 8 = .ok (.aload_n 0, 1) := by decide +kernel
theorem dX1_isAlight_9 : decode cX1_isAlight 9 = .ok (.getfield 19, 3) := by decide +kernel
theorem dX1_isAlight_12 : decode cX1_isAlight 12 = .ok (.iload_n 2, 1) := by decide +kernel
theorem dX1_isAlight_13 : decode cX1_isAlight 13 = .ok (.iaload, 1) := by decide +kernel
theorem dX1_isAlight_14 : decode cX1_isAlight 14 = .ok (.invokevirtual 36, 3) := by decide +kernel
theorem dX1_isAlight_17 : decode cX1_isAlight 17 = .ok (.invokevirtual 42, 3) := by decide +kernel
theorem dX1_isAlight_20 : decode cX1_isAlight 20 = .ok (.iconst 2, 1) := by decide +kernel
theorem dX1_isAlight_21 : decode cX1_isAlight 21 = .ok (.if_icmp .ne 7, 3) := by decide +kernel
theorem dX1_isAlight_24 : decode cX1_isAlight 24 = .ok (.iconst 1, 1) := by decide +kernel
theorem dX1_isAlight_25 : decode cX1_isAlight 25 = .ok (.goto 4, 3) := by decide +kernel
theorem dX1_isAlight_28 : decode cX1_isAlight 28 = .ok (.iconst 0, 1) := by decide +kernel
theorem dX1_isAlight_29 : decode cX1_isAlight 29 = .ok (.ireturn, 1) := by decide +kernel
theorem dX2_init_0 : decode cX2_init 0 = .ok (.aload_n 0, 1) := by decide +kernel
theorem dX2_init_1 : decode cX2_init 1 = .ok (.invokespecial 5, 3) := by decide +kernel
theorem dX2_init_4 : decode cX2_init 4 = .ok (.aload_n 0, 1) := by decide +kernel
theorem dX2_init_5 : decode cX2_init 5 = .ok (.sipush 364, 3) := by decide +kernel
theorem dX2_init_8 : decode cX2_init 8 = .ok (.newarray .long, 2) := by decide +kernel
theorem dX2_init_10 : decode cX2_init 10 = .ok (.putfield 11, 3) := by decide +kernel
theorem dX2_init_13 : decode cX2_init 13 = .ok (.return_, 1) := by decide +kernel
set_option maxRecDepth 20000 in
theorem ggX2_keep_X2_packed : GoodIn wsX2_keep wsX2_packed := goodIn_r _ [5, 6, 7, 8, 9, 10, 11, 13, 14, 15, 16] (by decide +kernel) (by decide +kernel)
set_option maxRecDepth 20000 in
theorem gX2_keep_X2_packed : GoodIn wsX2_keep (va_wsS RX2 15 yX2_packed wsX2_packed) := goodIn_app (goodIn_of _ (by decide +kernel)) ggX2_keep_X2_packed
theorem dX2_keep_0 : decode cX2_keep 0 = .ok (.iload_n 1, 1) := by decide +kernel
theorem dX2_keep_1 : decode cX2_keep 1 = .ok (.ifCond .lt 9, 3) := by decide +kernel
theorem dX2_keep_4 : decode cX2_keep 4 = .ok (.iload_n 1, 1) := by decide +kernel
theorem dX2_keep_5 : decode cX2_keep 5 = .ok (.bipush 90, 2) := by decide +kernel
theorem dX2_keep_7 : decode cX2_keep 7 = .ok (.if_icmp .le 4, 3) := by decide +kernel
theorem dX2_keep_10 : decode cX2_keep 10 = .ok (.return_, 1) := by decide +kernel
theorem dX2_keep_11 : decode cX2_keep 11 = .ok (.iconst 0, 1) := by decide +kernel
theorem dX2_keep_12 : decode cX2_keep 12 = .ok (.istore_n 3, 1) := by decide +kernel
theorem dX2_keep_13 : decode cX2_keep 13 = .ok (.iload_n 3, 1) := by decide +kernel
theorem dX2_keep_14 : decode cX2_keep 14 = .ok (.iconst 4, 1) := by decide +kernel
theorem dX2_keep_15 : decode cX2_keep 15 = .ok (.if_icmp .ge 27, 3) := by decide +kernel
theorem dX2_keep_18 : decode cX2_keep 18 = .ok (.aload_n 0, 1) := by decide +kernel
theorem dX2_keep_19 : decode cX2_keep 19 = .ok (.getfield 11, 3) := by decide +kernel
theorem dX2_keep_22 : decode cX2_keep 22 = .ok (.iload_n 1, 1) := by decide +kernel
theorem dX2_keep_23 : decode cX2_keep 23 = .ok (.iconst 4, 1) := by decide +kernel
theorem dX2_keep_24 : decode cX2_keep 24 = .ok (.imul, 1) := by decide +kernel
theorem dX2_keep_25 : decode cX2_keep 25 = .ok (.iload_n 3, 1) := by decide +kernel
theorem dX2_keep_26 : decode cX2_keep 26 = .ok (.iadd, 1) := by decide +kernel
theorem dX2_keep_27 : decode cX2_keep 27 = .ok (.aload_n 2, 1) := by decide +kernel
theorem dX2_keep_28 : decode cX2_keep 28 = .ok (.iload_n 3, 1) := by decide +kernel
theorem dX2_keep_29 : decode cX2_keep 29 = .ok (.bipush 25, 2) := by decide +kernel
theorem dX2_keep_31 : decode cX2_keep 31 = .ok (.imul, 1) := by decide +kernel
theorem dX2_keep_32 : decode cX2_keep 32 = .ok (.invokestatic 15, 3) := by decide +kernel
theorem dX2_keep_35 : decode cX2_keep 35 = .ok (.lastore, 1) := by decide +kernel
theorem dX2_keep_36 : decode cX2_keep 36 = .ok (.iinc 3 1, 3) := by decide +kernel
theorem dX2_keep_39 : decode cX2_keep 39 = .ok (.goto (-26), 3) := by decide +kernel
theorem dX2_keep_42 : decode cX2_keep 42 = .ok (.return_, 1) := by decide +kernel
set_option maxRecDepth 20000 in
theorem ggX2_firstLike_X2_isSame : GoodIn wsX2_firstLike wsX2_isSame := goodIn_r _ [5, 6, 7] (by decide +kernel) (by decide +kernel)
set_option maxRecDepth 20000 in
theorem gX2_firstLike_X2_isSame : GoodIn wsX2_firstLike (wsV RX2 19 RX2 yX2_isSame wsX2_isSame) := goodIn_app (goodIn_of _ (by decide +kernel)) ggX2_firstLike_X2_isSame
theorem dX2_firstLike_0 : decode cX2_firstLike 0 = .ok (.iload_n 1, 1) := by decide +kernel
theorem dX2_firstLike_1 : decode cX2_firstLike 1 = .ok (.ifCond .lt 9, 3) := by decide +kernel
theorem dX2_firstLike_4 : decode cX2_firstLike 4 = .ok (.iload_n 1, 1) := by decide +kernel
theorem dX2_firstLike_5 : decode cX2_firstLike 5 = .ok (.bipush 90, 2) := by decide +kernel
theorem dX2_firstLike_7 : decode cX2_firstLike 7 = .ok (.if_icmp .le 5, 3) := by decide +kernel
theorem dX2_firstLike_10 : decode cX2_firstLike 10 = .ok (.iload_n 1, 1) := by decide +kernel
theorem dX2_firstLike_11 : decode cX2_firstLike 11 = .ok (.ireturn, 1) := by decide +kernel
theorem dX2_firstLike_12 : decode cX2_firstLike 12 = .ok (.iconst 0, 1) := by decide +kernel
theorem dX2_firstLike_13 : decode cX2_firstLike 13 = .ok (.istore_n 2, 1) := by decide +kernel
theorem dX2_firstLike_14 : decode cX2_firstLike 14 = .ok (.iload_n 2, 1) := by decide +kernel
theorem dX2_firstLike_15 : decode cX2_firstLike 15 = .ok (.iload_n 1, 1) := by decide +kernel
theorem dX2_firstLike_16 : decode cX2_firstLike 16 = .ok (.if_icmp .ge 20, 3) := by decide +kernel
theorem dX2_firstLike_19 : decode cX2_firstLike 19 = .ok (.aload_n 0, 1) := by decide +kernel
theorem dX2_firstLike_20 : decode cX2_firstLike 20 = .ok (.iload_n 2, 1) := by decide +kernel
theorem dX2_firstLike_21 : decode cX2_firstLike 21 = .ok (.iload_n 1, 1) := by decide +kernel
theorem dX2_firstLike_22 : decode cX2_firstLike 22 = .ok (.invokevirtual 19, 3) := by decide +kernel
theorem dX2_firstLike_25 : decode cX2_firstLike 25 = .ok (.ifCond .eq 5, 3) := by decide +kernel
theorem dX2_firstLike_28 : decode cX2_firstLike 28 = .ok (.iload_n 2, 1) := by decide +kernel
theorem dX2_firstLike_29 : decode cX2_firstLike 29 = .ok (.ireturn, 1) := by decide +kernel
theorem dX2_firstLike_30 : decode cX2_firstLike 30 = .ok (.iinc 2 1, 3) := by decide +kernel
theorem dX2_firstLike_33 : decode cX2_firstLike 33 = .ok (.goto (-19), 3) := by decide +kernel
theorem dX2_firstLike_36 : decode cX2_firstLike 36 = .ok (.iload_n 1, 1) := by decide +kernel
theorem dX2_firstLike_37 : decode cX2_firstLike 37 = .ok (.ireturn, 1) := by decide +kernel
set_option maxRecDepth 20000 in
theorem ggX2_packed_X0_kind : GoodIn wsX2_packed wsX0_kind := goodIn_r _ [5, 6, 7, 8, 9, 10] (by decide +kernel) (by decide +kernel)
set_option maxRecDepth 20000 in
theorem gX2_packed_X0_kind : GoodIn wsX2_packed (wsV RX2 23 RX0 yX0_kind wsX0_kind) := goodIn_app (goodIn_of _ (by decide +kernel)) ggX2_packed_X0_kind
theorem dX2_packed_0 : decode cX2_packed 0 = .ok (.lconst 0, 1) := by decide +kernel
theorem dX2_packed_1 : decode cX2_packed 1 = .ok (.lstore_n 2, 1) := by decide +kernel
theorem dX2_packed_2 : decode cX2_packed 2 = .ok (.iconst 0, 1) := by decide +kernel
theorem dX2_packed_3 : decode cX2_packed 3 = .ok (.istore 4, 2) := by decide +kernel
theorem dX2_packed_5 : decode cX2_packed 5 = .ok (.iload 4, 2) := by decide +kernel
theorem dX2_packed_7 : decode cX2_packed 7 = .ok (.bipush 25, 2) := by decide +kernel
theorem dX2_packed_9 : decode cX2_packed 9 = .ok (.if_icmp .ge 23, 3) := by decide +kernel
theorem dX2_packed_12 : decode cX2_packed 12 = .ok (.lload_n 2, 1) := by decide +kernel
theorem dX2_packed_13 : decode cX2_packed 13 = .ok (.iconst 2, 1) := by decide +kernel
theorem dX2_packed_14 : decode cX2_packed 14 = .ok (.lshl, 1) := by decide +kernel
theorem dX2_packed_15 : decode cX2_packed 15 = .ok (.aload_n 0, 1) := by decide +kernel
theorem dX2_packed_16 : decode cX2_packed 16 = .ok (.iload_n 1, 1) := by decide +kernel
theorem dX2_packed_17 : decode cX2_packed 17 = .ok (.iload 4, 2) := by decide +kernel
theorem dX2_packed_19 : decode cX2_packed 19 = .ok (.iadd, 1) := by decide +kernel
theorem dX2_packed_20 : decode cX2_packed 20 = .ok (.invokevirtual 23, 3) := by decide +kernel
theorem dX2_packed_23 : decode cX2_packed 23 = .ok (.i2l, 1) := by decide +kernel
theorem dX2_packed_24 : decode cX2_packed 24 = .ok (.lor, 1) := by decide +kernel
theorem dX2_packed_25 : decode cX2_packed 25 = .ok (.lstore_n 2, 1) := by decide +kernel
theorem dX2_packed_26 : decode cX2_packed 26 = .ok (.iinc 4 1, 3) := by decide +kernel
theorem dX2_packed_29 : decode cX2_packed 29 = .ok (.goto (-24), 3) := by decide +kernel
theorem dX2_packed_32 : decode cX2_packed 32 = .ok (.lload_n 2, 1) := by decide +kernel
theorem dX2_packed_33 : decode cX2_packed 33 = .ok (.lreturn, 1) := by decide +kernel
theorem dX2_isSame_0 : decode cX2_isSame 0 = .ok (.iconst 0, 1) := by decide +kernel
theorem dX2_isSame_1 : decode cX2_isSame 1 = .ok (.istore_n 3, 1) := by decide +kernel
theorem dX2_isSame_2 : decode cX2_isSame 2 = .ok (.iload_n 3, 1) := by decide +kernel
theorem dX2_isSame_3 : decode cX2_isSame 3 = .ok (.iconst 4, 1) := by decide +kernel
theorem dX2_isSame_4 : decode cX2_isSame 4 = .ok (.if_icmp .ge 35, 3) := by decide +kernel
theorem dX2_isSame_7 : decode cX2_isSame 7 = .ok (.aload_n 0, 1) := by decide +kernel
theorem dX2_isSame_8 : decode cX2_isSame 8 = .ok (.getfield 11, 3) := by decide +kernel
theorem dX2_isSame_11 : decode cX2_isSame 11 = .ok (.iload_n 1, 1) := by decide +kernel
theorem dX2_isSame_12 : decode cX2_isSame 12 = .ok (.iconst 4, 1) := by decide +kernel
theorem dX2_isSame_13 : decode cX2_isSame 13 = .ok (.imul, 1) := by decide +kernel
theorem dX2_isSame_14 : decode cX2_isSame 14 = .ok (.iload_n 3, 1) := by decide +kernel
theorem dX2_isSame_15 : decode cX2_isSame 15 = .ok (.iadd, 1) := by decide +kernel
theorem dX2_isSame_16 : decode cX2_isSame 16 = .ok (.laload, 1) := by decide +kernel
theorem dX2_isSame_17 : decode cX2_isSame 17 = .ok (.aload_n 0, 1) := by decide +kernel
theorem dX2_isSame_18 : decode cX2_isSame 18 = .ok (.getfield 11, 3) := by decide +kernel
theorem dX2_isSame_21 : decode cX2_isSame 21 = .ok (.iload_n 2, 1) := by decide +kernel
theorem dX2_isSame_22 : decode cX2_isSame 22 = .ok (.iconst 4, 1) := by decide +kernel
theorem dX2_isSame_23 : decode cX2_isSame 23 = .ok (.imul, 1) := by decide +kernel
theorem dX2_isSame_24 : decode cX2_isSame 24 = .ok (.iload_n 3, 1) := by decide +kernel
theorem dX2_isSame_25 : decode cX2_isSame 25 = .ok (.iadd, 1) := by decide +kernel
theorem dX2_isSame_26 : decode cX2_isSame 26 = .ok (.laload, 1) := by decide +kernel
theorem dX2_isSame_27 : decode cX2_isSame 27 = .ok (.lcmp, 1) := by decide +kernel
theorem dX2_isSame_28 : decode cX2_isSame 28 = .ok (.ifCond .eq 5, 3) := by decide +kernel
theorem dX2_isSame_31 : decode cX2_isSame 31 = .ok (.iconst 0, 1) := by decide +kernel
theorem dX2_isSame_32 : decode cX2_isSame 32 = .ok (.ireturn, 1) := by decide +kernel
theorem dX2_isSame_33 : decode cX2_isSame 33 = .ok (.iinc 3 1, 3) := by decide +kernel
theorem dX2_isSame_36 : decode cX2_isSame 36 = .ok (.goto (-34), 3) := by decide +kernel
theorem dX2_isSame_39 : decode cX2_isSame 39 = .ok (.iconst 1, 1) := by decide +kernel
theorem dX2_isSame_40 : decode cX2_isSame 40 = .ok (.ireturn, 1) := by decide +kernel
theorem dX3_init_0 : decode cX3_init 0 = .ok (.aload_n 0, 1) := by decide +kernel
theorem dX3_init_1 : decode cX3_init 1 = .ok (.invokespecial 3, 3) := by decide +kernel
theorem dX3_init_4 : decode cX3_init 4 = .ok (.aload_n 0, 1) := by decide +kernel
theorem dX3_init_5 : decode cX3_init 5 = .ok (.bipush 100, 2) := by decide +kernel
theorem dX3_init_7 : decode cX3_init 7 = .ok (.newarray .int, 2) := by decide +kernel
theorem dX3_init_9 : decode cX3_init 9 = .ok (.putfield 9, 3) := by decide +kernel
theorem dX3_init_12 : decode cX3_init 12 = .ok (.aload_n 0, 1) := by decide +kernel
theorem dX3_init_13 : decode cX3_init 13 = .ok (.bipush 100, 2) := by decide +kernel
theorem dX3_init_15 : decode cX3_init 15 = .ok (.newarray .int, 2) := by decide +kernel
theorem dX3_init_17 : decode cX3_init 17 = .ok (.putfield 15, 3) := by decide +kernel
theorem dX3_init_20 : decode cX3_init 20 = .ok (.aload_n 0, 1) := by decide +kernel
theorem dX3_init_21 : decode cX3_init 21 = .ok (.bipush 100, 2) := by decide +kernel
theorem dX3_init_23 : decode cX3_init 23 = .ok (.newarray .int, 2) := by decide +kernel
theorem dX3_init_25 : decode cX3_init 25 = .ok (.putfield 18, 3) := by decide +kernel
theorem dX3_init_28 : decode cX3_init 28 = .ok (.return_, 1) := by decide +kernel
set_option maxRecDepth 20000 in
theorem ggX3_sizeOfPiece_X3_forget : GoodIn wsX3_sizeOfPiece wsX3_forget := goodIn_r _ [5, 6, 7, 8, 9, 10, 33, 34, 35] (by decide +kernel) (by decide +kernel)
set_option maxRecDepth 20000 in
theorem gX3_sizeOfPiece_X3_forget : GoodIn wsX3_sizeOfPiece (wsV RX3 21 RX3 yX3_forget wsX3_forget) := goodIn_app (goodIn_of _ (by decide +kernel)) ggX3_sizeOfPiece_X3_forget
set_option maxRecDepth 20000 in
theorem ggX3_sizeOfPiece_X3_reach : GoodIn wsX3_sizeOfPiece wsX3_reach := goodIn_r _ [14, 6, 15, 16, 17, 18, 19, 4, 20, 21, 22, 23, 24, 25, 26, 27, 28, 29, 30, 31, 32, 33, 34, 35, 36, 37, 38, 39] (by decide +kernel) (by decide +kernel)
set_option maxRecDepth 20000 in
theorem gX3_sizeOfPiece_X3_reach : GoodIn wsX3_sizeOfPiece (wsV RX3 24 RX3 yX3_reach wsX3_reach) := goodIn_app (goodIn_of _ (by decide +kernel)) ggX3_sizeOfPiece_X3_reach
theorem dX3_sizeOfPiece_0 : decode cX3_sizeOfPiece 0 = .ok (.aload_n 0, 1) := by decide +kernel
theorem dX3_sizeOfPiece_1 : decode cX3_sizeOfPiece 1 = .ok (.invokevirtual 21, 3) := by decide +kernel
theorem dX3_sizeOfPiece_4 : decode cX3_sizeOfPiece 4 = .ok (.aload_n 0, 1) := by decide +kernel
theorem dX3_sizeOfPiece_5 : decode cX3_sizeOfPiece 5 = .ok (.aload_n 1, 1) := by decide +kernel
theorem dX3_sizeOfPiece_6 : decode cX3_sizeOfPiece 6 = .ok (.iload_n 2, 1) := by decide +kernel
theorem dX3_sizeOfPiece_7 : decode cX3_sizeOfPiece 7 = .ok (.iload_n 3, 1) := by decide +kernel
theorem dX3_sizeOfPiece_8 : decode cX3_sizeOfPiece 8 = .ok (.invokevirtual 24, 3) := by decide +kernel
theorem dX3_sizeOfPiece_11 : decode cX3_sizeOfPiece 11 = .ok (.ireturn, 1) := by decide +kernel
set_option maxRecDepth 20000 in
theorem ggX3_pieces_X3_forget : GoodIn wsX3_pieces wsX3_forget := goodIn_r _ [5, 6, 7, 8, 9, 10, 41, 42, 43] (by decide +kernel) (by decide +kernel)
set_option maxRecDepth 20000 in
theorem gX3_pieces_X3_forget : GoodIn wsX3_pieces (wsV RX3 21 RX3 yX3_forget wsX3_forget) := goodIn_app (goodIn_of _ (by decide +kernel)) ggX3_pieces_X3_forget
set_option maxRecDepth 20000 in
theorem ggX3_pieces_X0_rows : GoodIn wsX3_pieces wsX0_rows := goodIn_r _ [15, 16, 44, 45, 46, 47] (by decide +kernel) (by decide +kernel)
set_option maxRecDepth 20000 in
theorem gX3_pieces_X0_rows : GoodIn wsX3_pieces (wsV RX3 28 RX0 yX0_rows wsX0_rows) := goodIn_app (goodIn_of _ (by decide +kernel)) ggX3_pieces_X0_rows
set_option maxRecDepth 20000 in
theorem ggX3_pieces_X0_columns : GoodIn wsX3_pieces wsX0_columns := goodIn_r _ [20, 21, 44, 45, 46, 47] (by decide +kernel) (by decide +kernel)
set_option maxRecDepth 20000 in
theorem gX3_pieces_X0_columns : GoodIn wsX3_pieces (wsV RX3 34 RX0 yX0_columns wsX0_columns) := goodIn_app (goodIn_of _ (by decide +kernel)) ggX3_pieces_X0_columns
set_option maxRecDepth 20000 in
theorem ggX3_pieces_X3_reach : GoodIn wsX3_pieces wsX3_reach := goodIn_r _ [25, 6, 26, 27, 28, 29, 30, 4, 31, 32, 33, 34, 14, 35, 21, 16, 36, 37, 38, 39, 40, 41, 42, 43, 44, 45, 46, 47] (by decide +kernel) (by decide +kernel)
set_option maxRecDepth 20000 in
theorem gX3_pieces_X3_reach : GoodIn wsX3_pieces (wsV RX3 24 RX3 yX3_reach wsX3_reach) := goodIn_app (goodIn_of _ (by decide +kernel)) ggX3_pieces_X3_reach
theorem dX3_pieces_0 : decode cX3_pieces 0 = .ok (.aload_n 0, 1) := by decide +kernel
theorem dX3_pieces_1 : decode cX3_pieces 1 = .ok (.invokevirtual 21, 3) := by decide +kernel
theorem dX3_pieces_4 : decode cX3_pieces 4 = .ok (.iconst 0, 1) := by decide +kernel
theorem dX3_pieces_5 : decode cX3_pieces 5 = .ok (.istore_n 2, 1) := by decide +kernel
theorem dX3_pieces_6 : decode cX3_pieces 6 = .ok (.iconst 0, 1) := by decide +kernel
theorem dX3_pieces_7 : decode cX3_pieces 7 = .ok (.istore_n 3, 1) := by decide +kernel
theorem dX3_pieces_8 : decode cX3_pieces 8 = .ok (.iload_n 3, 1) := by decide +kernel
theorem dX3_pieces_9 : decode cX3_pieces 9 = .ok (.aload_n 1, 1) := by decide +kernel
theorem dX3_pieces_10 : decode cX3_pieces 10 = .ok (.invokevirtual 28, 3) := by decide +kernel
theorem dX3_pieces_13 : decode cX3_pieces 13 = .ok (.if_icmp .ge 41, 3) := by decide +kernel
theorem dX3_pieces_16 : decode cX3_pieces 16 = .ok (.iconst 0, 1) := by decide +kernel
theorem dX3_pieces_17 : decode cX3_pieces 17 = .ok (.istore 4, 2) := by decide +kernel
theorem dX3_pieces_19 : decode cX3_pieces 19 = .ok (.iload 4, 2) := by decide +kernel
theorem dX3_pieces_21 : decode cX3_pieces 21 = .ok (.aload_n 1, 1) := by decide +kernel
theorem dX3_pieces_22 : decode cX3_pieces 22 = .ok (.invokevirtual 34, 3) := by decide +kernel
theorem dX3_pieces_25 : decode cX3_pieces 25 = .ok (.if_icmp .ge 23, 3) := by decide +kernel
theorem dX3_pieces_28 : decode cX3_pieces 28 = .ok (.aload_n 0, 1) := by decide +kernel
theorem dX3_pieces_29 : decode cX3_pieces 29 = .ok (.aload_n 1, 1) := by decide +kernel
theorem dX3_pieces_30 : decode cX3_pieces 30 = .ok (.iload 4, 2) := by decide +kernel
theorem dX3_pieces_32 : decode cX3_pieces 32 = .ok (.iload_n 3, 1) := by decide +kernel
theorem dX3_pieces_33 : decode cX3_pieces 33 = .ok (.invokevirtual 24, 3) := by decide +kernel
theorem dX3_pieces_36 : decode cX3_pieces 36 = .ok (.ifCond .le 6, 3) := by decide +kernel
theorem dX3_pieces_39 : decode cX3_pieces 39 = .ok (.iinc 2 1, 3) := by decide +kernel
theorem dX3_pieces_42 : decode cX3_pieces 42 = .ok (.iinc 4 1, 3) := by decide +kernel
theorem dX3_pieces_45 : decode cX3_pieces 45 = .ok (.goto (-26), 3) := by decide +kernel
theorem dX3_pieces_48 : decode cX3_pieces 48 = .ok (.iinc 3 1, 3) := by decide +kernel
theorem dX3_pieces_51 : decode cX3_pieces 51 = .ok (.goto (-43), 3) := by decide +kernel
theorem dX3_pieces_54 : decode cX3_pieces 54 = .ok (.iload_n 2, 1) := by decide +kernel
theorem dX3_pieces_55 : decode cX3_pieces 55 = .ok (.ireturn, 1) := by decide +kernel
set_option maxRecDepth 20000 in
theorem ggX3_sizeOfLongest_X3_forget : GoodIn wsX3_sizeOfLongest wsX3_forget := goodIn_r _ [9, 10, 11, 12, 13, 14, 45, 46, 47] (by decide +kernel) (by decide +kernel)
set_option maxRecDepth 20000 in
theorem gX3_sizeOfLongest_X3_forget : GoodIn wsX3_sizeOfLongest (wsV RX3 21 RX3 yX3_forget wsX3_forget) := goodIn_app (goodIn_of _ (by decide +kernel)) ggX3_sizeOfLongest_X3_forget
set_option maxRecDepth 20000 in
theorem ggX3_sizeOfLongest_X0_rows : GoodIn wsX3_sizeOfLongest wsX0_rows := goodIn_r _ [19, 20, 48, 49, 50, 51] (by decide +kernel) (by decide +kernel)
set_option maxRecDepth 20000 in
theorem gX3_sizeOfLongest_X0_rows : GoodIn wsX3_sizeOfLongest (wsV RX3 28 RX0 yX0_rows wsX0_rows) := goodIn_app (goodIn_of _ (by decide +kernel)) ggX3_sizeOfLongest_X0_rows
set_option maxRecDepth 20000 in
theorem ggX3_sizeOfLongest_X0_columns : GoodIn wsX3_sizeOfLongest wsX0_columns := goodIn_r _ [24, 25, 48, 49, 50, 51] (by decide +kernel) (by decide +kernel)
set_option maxRecDepth 20000 in
theorem gX3_sizeOfLongest_X0_columns : GoodIn wsX3_sizeOfLongest (wsV RX3 34 RX0 yX0_columns wsX0_columns) := goodIn_app (goodIn_of _ (by decide +kernel)) ggX3_sizeOfLongest_X0_columns
set_option maxRecDepth 20000 in
theorem ggX3_sizeOfLongest_X3_reach : GoodIn wsX3_sizeOfLongest wsX3_reach := goodIn_r _ [29, 10, 30, 31, 32, 33, 34, 8, 35, 36, 37, 38, 18, 39, 25, 20, 40, 41, 42, 43, 44, 45, 46, 47, 48, 49, 50, 51] (by decide +kernel) (by decide +kernel)
set_option maxRecDepth 20000 in
theorem gX3_sizeOfLongest_X3_reach : GoodIn wsX3_sizeOfLongest (wsV RX3 24 RX3 yX3_reach wsX3_reach) := goodIn_app (goodIn_of _ (by decide +kernel)) ggX3_sizeOfLongest_X3_reach
theorem dX3_sizeOfLongest_0 : decode cX3_sizeOfLongest 0 = .ok (.aload_n 0, 1) := by decide +kernel
theorem dX3_sizeOfLongest_1 : decode cX3_sizeOfLongest 1 = .ok (.invokevirtual 21, 3) := by decide +kernel
theorem dX3_sizeOfLongest_4 : decode cX3_sizeOfLongest 4 = .ok (.iconst 0, 1) := by decide +kernel
theorem dX3_sizeOfLongest_5 : decode cX3_sizeOfLongest 5 = .ok (.istore_n 2, 1) := by decide +kernel
theorem dX3_sizeOfLongest_6 : decode cX3_sizeOfLongest 6 = .ok (.iconst 0, 1) := by decide +kernel
theorem dX3_sizeOfLongest_7 : decode cX3_sizeOfLongest 7 = .ok (.istore_n 3, 1) := by decide +kernel
theorem dX3_sizeOfLongest_8 : decode cX3_sizeOfLongest 8 = .ok (.iload_n 3, 1) := by decide +kernel
theorem dX3_sizeOfLongest_9 : decode cX3_sizeOfLongest 9 = .ok (.aload_n 1, 1) := by decide +kernel
theorem dX3_sizeOfLongest_10 : decode cX3_sizeOfLongest 10 = .ok (.invokevirtual 28, 3) := by decide +kernel
theorem dX3_sizeOfLongest_13 : decode cX3_sizeOfLongest 13 = .ok (.if_icmp .ge 40, 3) := by decide +kernel
theorem dX3_sizeOfLongest_16 : decode cX3_sizeOfLongest 16 = .ok (.iconst 0, 1) := by decide +kernel
theorem dX3_sizeOfLongest_17 : decode cX3_sizeOfLongest 17 = .ok (.istore 4, 2) := by decide +kernel
theorem dX3_sizeOfLongest_19 : decode cX3_sizeOfLongest 19 = .ok (.iload 4, 2) := by decide +kernel
theorem dX3_sizeOfLongest_21 : decode cX3_sizeOfLongest 21 = .ok (.aload_n 1, 1) := by decide +kernel
theorem dX3_sizeOfLongest_22 : decode cX3_sizeOfLongest 22 = .ok (.invokevirtual 34, 3) := by decide +kernel
theorem dX3_sizeOfLongest_25 : decode cX3_sizeOfLongest 25 = .ok (.if_icmp .ge 22, 3) := by decide +kernel
theorem dX3_sizeOfLongest_28 : decode cX3_sizeOfLongest 28 = .ok (.iload_n 2, 1) := by decide +kernel
theorem dX3_sizeOfLongest_29 : decode cX3_sizeOfLongest 29 = .ok (.aload_n 0, 1) := by decide +kernel
theorem dX3_sizeOfLongest_30 : decode cX3_sizeOfLongest 30 = .ok (.aload_n 1, 1) := by decide +kernel
theorem dX3_sizeOfLongest_31 : decode cX3_sizeOfLongest 31 = .ok (.iload 4, 2) := by decide +kernel
theorem dX3_sizeOfLongest_33 : decode cX3_sizeOfLongest 33 = .ok (.iload_n 3, 1) := by decide +kernel
theorem dX3_sizeOfLongest_34 : decode cX3_sizeOfLongest 34 = .ok (.invokevirtual 24, 3) := by decide +kernel
theorem dX3_sizeOfLongest_37 : decode cX3_sizeOfLongest 37 = .ok (.invokestatic 37, 3) := by decide +kernel
theorem dX3_sizeOfLongest_40 : decode cX3_sizeOfLongest 40 = .ok (.istore_n 2, 1) := by decide +kernel
theorem dX3_sizeOfLongest_41 : decode cX3_sizeOfLongest 41 = .ok (.iinc 4 1, 3) := by decide +kernel
theorem dX3_sizeOfLongest_44 : decode cX3_sizeOfLongest 44 = .ok (.goto (-25), 3) := by decide +kernel
theorem dX3_sizeOfLongest_47 : decode cX3_sizeOfLongest 47 = .ok (.iinc 3 1, 3) := by decide +kernel
theorem dX3_sizeOfLongest_50 : decode cX3_sizeOfLongest 50 = .ok (.goto (-42), 3) := by decide +kernel
theorem dX3_sizeOfLongest_53 : decode cX3_sizeOfLongest 53 = .ok (.iload_n 2, 1) := by decide +kernel
theorem dX3_sizeOfLongest_54 : decode cX3_sizeOfLongest 54 = .ok (.ireturn, 1) := by decide +kernel
set_option maxRecDepth 20000 in
theorem ggX3_far_X3_forget : GoodIn wsX3_far wsX3_forget := goodIn_r _ [6, 1, 7, 8, 9, 10, 33, 34, 35] (by decide +kernel) (by decide +kernel)
set_option maxRecDepth 20000 in
theorem gX3_far_X3_forget : GoodIn wsX3_far (wsV RX3 21 RX3 yX3_forget wsX3_forget) := goodIn_app (goodIn_of _ (by decide +kernel)) ggX3_far_X3_forget
set_option maxRecDepth 20000 in
theorem ggX3_far_X3_reach : GoodIn wsX3_far wsX3_reach := goodIn_r _ [14, 1, 15, 16, 17, 18, 19, 5, 20, 21, 22, 23, 24, 25, 26, 27, 28, 29, 30, 31, 32, 33, 34, 35, 36, 37, 38, 39] (by decide +kernel) (by decide +kernel)
set_option maxRecDepth 20000 in
theorem gX3_far_X3_reach : GoodIn wsX3_far (wsV RX3 24 RX3 yX3_reach wsX3_reach) := goodIn_app (goodIn_of _ (by decide +kernel)) ggX3_far_X3_reach
theorem dX3_far_0 : decode cX3_far 0 = .ok (.aload_n 0, 1) := by decide +kernel
theorem dX3_far_1 : decode cX3_far 1 = .ok (.invokevirtual 21, 3) := by decide +kernel
theorem dX3_far_4 : decode cX3_far 4 = .ok (.aload_n 0, 1) := by decide +kernel
theorem dX3_far_5 : decode cX3_far 5 = .ok (.aload_n 1, 1) := by decide +kernel
theorem dX3_far_6 : decode cX3_far 6 = .ok (.iload_n 2, 1) := by decide +kernel
theorem dX3_far_7 : decode cX3_far 7 = .ok (.iload_n 3, 1) := by decide +kernel
theorem dX3_far_8 : decode cX3_far 8 = .ok (.invokevirtual 24, 3) := by decide +kernel
theorem dX3_far_11 : decode cX3_far 11 = .ok (.pop, 1) := by decide +kernel
theorem dX3_far_12 : decode cX3_far 12 = .ok (.iload 4, 2) := by decide +kernel
theorem dX3_far_14 : decode cX3_far 14 = .ok (.ifCond .lt 20, 3) := by decide +kernel
theorem dX3_far_17 : decode cX3_far 17 = .ok (.iload 4, 2) := by decide +kernel
theorem dX3_far_19 : decode cX3_far 19 = .ok (.bipush 100, 2) := by decide +kernel
theorem dX3_far_21 : decode cX3_far 21 = .ok (.if_icmp .ge 13, 3) := by decide +kernel
theorem dX3_far_24 : decode cX3_far 24 = .ok (.aload_n 0, 1) := by decide +kernel
theorem dX3_far_25 : decode cX3_far 25 = .ok (.getfield 9, 3) := by decide +kernel
theorem dX3_far_28 : decode cX3_far 28 = .ok (.iload 4, 2) := by decide +kernel
theorem dX3_far_30 : decode cX3_far 30 = .ok (.iaload, 1) := by decide +kernel
theorem dX3_far_31 : decode cX3_far 31 = .ok (.goto 4, 3) := by decide +kernel
theorem dX3_far_34 : decode cX3_far 34 = .ok (.iconst (-1), 1) := by decide +kernel
theorem dX3_far_35 : decode cX3_far 35 = .ok (.ireturn, 1) := by decide +kernel
set_option maxRecDepth 20000 in
theorem ggX3_forget_J7_fill_53178 : GoodIn wsX3_forget wsJ7_fill_53178 := goodIn_r _ [5] (by decide +kernel) (by decide +kernel)
set_option maxRecDepth 20000 in
theorem gX3_forget_J7_fill_53178 : GoodIn wsX3_forget (va_wsS RX3 43 yJ7_fill_53178 wsJ7_fill_53178) := goodIn_app (goodIn_of _ (by decide +kernel)) ggX3_forget_J7_fill_53178
theorem dX3_forget_0 : decode cX3_forget 0 = .ok (.aload_n 0, 1) := by decide +kernel
theorem dX3_forget_1 : decode cX3_forget 1 = .ok (.getfield 9, 3) := by decide +kernel
theorem dX3_forget_4 : decode cX3_forget 4 = .ok (.iconst (-1), 1) := by decide +kernel
theorem dX3_forget_5 : decode cX3_forget 5 = .ok (.invokestatic 43, 3) := by decide +kernel
theorem dX3_forget_8 : decode cX3_forget 8 = .ok (.return_, 1) := by decide +kernel
set_option maxRecDepth 20000 in
theorem ggX3_reach_X3_visit : GoodIn wsX3_reach wsX3_visit := goodIn_r _ [8, 1, 2, 3, 9, 10, 11, 12, 13, 14, 15, 16, 17, 18, 19, 20, 21, 22, 23, 24, 25, 26, 27] (by decide +kernel) (by decide +kernel)
set_option maxRecDepth 20000 in
theorem gX3_reach_X3_visit : GoodIn wsX3_reach (wsV RX3 49 RX3 yX3_visit wsX3_visit) := goodIn_app (goodIn_of _ (by decide +kernel)) ggX3_reach_X3_visit
set_option maxRecDepth 20000 in
theorem ggX3_reach_X0_cell : GoodIn wsX3_reach wsX0_cell := goodIn_r _ [13, 14, 15, 24, 25, 26, 27] (by decide +kernel) (by decide +kernel)
set_option maxRecDepth 20000 in
theorem gX3_reach_X0_cell : GoodIn wsX3_reach (wsV RX3 53 RX0 yX0_cell wsX0_cell) := goodIn_app (goodIn_of _ (by decide +kernel)) ggX3_reach_X0_cell
theorem dX3_reach_0 : decode cX3_reach 0 = .ok (.aload_n 0, 1) := by decide +kernel
theorem dX3_reach_1 : decode cX3_reach 1 = .ok (.aload_n 1, 1) := by decide +kernel
theorem dX3_reach_2 : decode cX3_reach 2 = .ok (.iload_n 2, 1) := by decide +kernel
theorem dX3_reach_3 : decode cX3_reach 3 = .ok (.iload_n 3, 1) := by decide +kernel
theorem dX3_reach_4 : decode cX3_reach 4 = .ok (.iconst 0, 1) := by decide +kernel
theorem dX3_reach_5 : decode cX3_reach 5 = .ok (.iconst 0, 1) := by decide +kernel
theorem dX3_reach_6 : decode cX3_reach 6 = .ok (.invokevirtual 49, 3) := by decide +kernel
theorem dX3_reach_9 : decode cX3_reach 9 = .ok (.istore 4, 2) := by decide +kernel
theorem dX3_reach_11 : decode cX3_reach 11 = .ok (.iconst 0, 1) := by decide +kernel
theorem dX3_reach_12 : decode cX3_reach 12 = .ok (.istore 5, 2) := by decide +kernel
theorem dX3_reach_14 : decode cX3_reach 14 = .ok (.iload 5, 2) := by decide +kernel
theorem dX3_reach_16 : decode cX3_reach 16 = .ok (.iload 4, 2) := by decide +kernel
theorem dX3_reach_18 : decode cX3_reach 18 = .ok (.if_icmp .ge 91, 3) := by decide +kernel
theorem dX3_reach_21 : decode cX3_reach 21 = .ok (.aload_n 0, 1) := by decide +kernel
theorem dX3_reach_22 : decode cX3_reach 22 = .ok (.getfield 9, 3) := by decide +kernel
theorem dX3_reach_25 : decode cX3_reach 25 = .ok (.aload_n 1, 1) := by decide +kernel
theorem dX3_reach_26 : decode cX3_reach 26 = .ok (.aload_n 0, 1) := by decide +kernel
theorem dX3_reach_27 : decode cX3_reach 27 = .ok (.getfield 15, 3) := by decide +kernel
theorem dX3_reach_30 : decode cX3_reach 30 = .ok (.iload 5, 2) := by decide +kernel
theorem dX3_reach_32 : decode cX3_reach 32 = .ok (.iaload, 1) := by decide +kernel
theorem dX3_reach_33 : decode cX3_reach 33 = .ok (.aload_n 0, 1) := by decide +kernel
theorem dX3_reach_34 : decode cX3_reach 34 = .ok (.getfield 18, 3) := by decide +kernel
theorem dX3_reach_37 : decode cX3_reach 37 = .ok (.iload 5, 2) := by decide +kernel
theorem dX3_reach_39 : decode cX3_reach 39 = .ok (.iaload, 1) := by decide +kernel
theorem dX3_reach_40 : decode cX3_reach 40 = .ok (.invokevirtual 53, 3) := by decide +kernel
theorem dX3_reach_43 : decode cX3_reach 43 = .ok (.iaload, 1) := by decide +kernel
theorem dX3_reach_44 : decode cX3_reach 44 = .ok (.iconst 1, 1) := by decide +kernel
theorem dX3_reach_45 : decode cX3_reach 45 = .ok (.iadd, 1) := by decide +kernel
theorem dX3_reach_46 : decode cX3_reach 46 = .ok (.istore 6, 2) := by decide +kernel
theorem dX3_reach_48 : decode cX3_reach 48 = .ok (.iconst 0, 1) := by decide +kernel
theorem dX3_reach_49 : decode cX3_reach 49 = .ok (.istore 7, 2) := by decide +kernel
theorem dX3_reach_51 : decode cX3_reach 51 = .ok (.iload 7, 2) := by decide +kernel
theorem dX3_reach_53 : decode cX3_reach 53 = .ok (.bipush 8, 2) := by decide +kernel
theorem dX3_reach_55 : decode cX3_reach 55 = .ok (.if_icmp .ge 48, 3) := by decide +kernel
theorem dX3_reach_58 : decode cX3_reach 58 = .ok (.aload_n 0, 1) := by decide +kernel
theorem dX3_reach_59 : decode cX3_reach 59 = .ok (.aload_n 1, 1) := by decide +kernel
theorem dX3_reach_60 : decode cX3_reach 60 = .ok (.aload_n 0, 1) := by decide +kernel
theorem dX3_reach_61 : decode cX3_reach 61 = .ok (.getfield 15, 3) := by decide +kernel
theorem dX3_reach_64 : decode cX3_reach 64 = .ok (.iload 5, 2) := by decide +kernel
theorem dX3_reach_66 : decode cX3_reach 66 = .ok (.iaload, 1) := by decide +kernel
theorem dX3_reach_67 : decode cX3_reach 67 = .ok (.getstatic 56, 3) := by decide +kernel
theorem dX3_reach_70 : decode cX3_reach 70 = .ok (.iload 7, 2) := by decide +kernel
theorem dX3_reach_72 : decode cX3_reach 72 = .ok (.iaload, 1) := by decide +kernel
theorem dX3_reach_73 : decode cX3_reach 73 = .ok (.iadd, 1) := by decide +kernel
theorem dX3_reach_74 : decode cX3_reach 74 = .ok (.aload_n 0, 1) := by decide +kernel
theorem dX3_reach_75 : decode cX3_reach 75 = .ok (.getfield 18, 3) := by decide +kernel
theorem dX3_reach_78 : decode cX3_reach 78 = .ok (.iload 5, 2) := by decide +kernel
theorem dX3_reach_80 : decode cX3_reach 80 = .ok (.iaload, 1) := by decide +kernel
theorem dX3_reach_81 : decode cX3_reach 81 = .ok (.getstatic 59, 3) := by decide +kernel
theorem dX3_reach_84 : decode cX3_reach 84 = .ok (.iload 7, 2) := by decide +kernel
theorem dX3_reach_86 : decode cX3_reach 86 = .ok (.iaload, 1) := by decide +kernel
theorem dX3_reach_87 : decode cX3_reach 87 = .ok (.iadd, 1) := by decide +kernel
theorem dX3_reach_88 : decode cX3_reach 88 = .ok (.iload 6, 2) := by decide +kernel
theorem dX3_reach_90 : decode cX3_reach 90 = .ok (.iload 4, 2) := by decide +kernel
theorem dX3_reach_92 : decode cX3_reach 92 = .ok (.invokevirtual 49, 3) := by decide +kernel
theorem dX3_reach_95 : decode cX3_reach 95 = .ok (.istore 4, 2) := by decide +kernel
theorem dX3_reach_97 : decode cX3_reach 97 = .ok (.iinc 7 1, 3) := by decide +kernel
theorem dX3_reach_100 : decode cX3_reach 100 = .ok (.goto (-49), 3) := by decide +kernel
theorem dX3_reach_103 : decode cX3_reach 103 = .ok (.iinc 5 1, 3) := by decide +kernel
theorem dX3_reach_106 : decode cX3_reach 106 = .ok (.goto (-92), 3) := by decide +kernel
theorem dX3_reach_109 : decode cX3_reach 109 = .ok (.iload 4, 2) := by decide +kernel
theorem dX3_reach_111 : decode cX3_reach 111 = .ok (.ireturn, 1) := by decide +kernel
set_option maxRecDepth 20000 in
theorem ggX3_visit_X0_cell : GoodIn wsX3_visit wsX0_cell := goodIn_r _ [8, 9, 10, 19, 20, 21, 22] (by decide +kernel) (by decide +kernel)
set_option maxRecDepth 20000 in
theorem gX3_visit_X0_cell : GoodIn wsX3_visit (wsV RX3 53 RX0 yX0_cell wsX0_cell) := goodIn_app (goodIn_of _ (by decide +kernel)) ggX3_visit_X0_cell
set_option maxRecDepth 20000 in
theorem ggX3_visit_X0_kind : GoodIn wsX3_visit wsX0_kind := goodIn_r _ [14, 15, 19, 20, 21, 22] (by decide +kernel) (by decide +kernel)
set_option maxRecDepth 20000 in
theorem gX3_visit_X0_kind : GoodIn wsX3_visit (wsV RX3 62 RX0 yX0_kind wsX0_kind) := goodIn_app (goodIn_of _ (by decide +kernel)) ggX3_visit_X0_kind
theorem dX3_visit_0 : decode cX3_visit 0 = .ok (.aload_n 1, 1) := by decide +kernel
theorem dX3_visit_1 : decode cX3_visit 1 = .ok (.iload_n 2, 1) := by decide +kernel
theorem dX3_visit_2 : decode cX3_visit 2 = .ok (.iload_n 3, 1) := by decide +kernel
theorem dX3_visit_3 : decode cX3_visit 3 = .ok (.invokevirtual 53, 3) := by decide +kernel
theorem dX3_visit_6 : decode cX3_visit 6 = .ok (.istore 6, 2) := by decide +kernel
theorem dX3_visit_8 : decode cX3_visit 8 = .ok (.aload_n 1, 1) := by decide +kernel
theorem dX3_visit_9 : decode cX3_visit 9 = .ok (.iload 6, 2) := by decide +kernel
theorem dX3_visit_11 : decode cX3_visit 11 = .ok (.invokevirtual 62, 3) := by decide +kernel
theorem dX3_visit_14 : decode cX3_visit 14 = .ok (.ifCond .eq 21, 3) := by decide +kernel
theorem dX3_visit_17 : decode cX3_visit 17 = .ok (.aload_n 0, 1) := by decide +kernel
theorem dX3_visit_18 : decode cX3_visit 18 = .ok (.getfield 9, 3) := by decide +kernel
theorem dX3_visit_21 : decode cX3_visit 21 = .ok (.iload 6, 2) := by decide +kernel
theorem dX3_visit_23 : decode cX3_visit 23 = .ok (.iaload, 1) := by decide +kernel
theorem dX3_visit_24 : decode cX3_visit 24 = .ok (.iconst (-1), 1) := by decide +kernel
theorem dX3_visit_25 : decode cX3_visit 25 = .ok (.if_icmp .ne 10, 3) := by decide +kernel
theorem dX3_visit_28 : decode cX3_visit 28 = .ok (.iload 5, 2) := by decide +kernel
theorem dX3_visit_30 : decode cX3_visit 30 = .ok (.bipush 100, 2) := by decide +kernel
theorem dX3_visit_32 : decode cX3_visit 32 = .ok (.if_icmp .lt 6, 3) := by decide +kernel
theorem dX3_visit_35 : decode cX3_visit 35 = .ok (.iload 5, 2) := by decide +kernel
theorem dX3_visit_37 : decode cX3_visit 37 = .ok (.ireturn, 1) := by decide +kernel
theorem dX3_visit_38 : decode cX3_visit 38 = .ok (.aload_n 0, 1) := by decide +kernel
theorem dX3_visit_39 : decode cX3_visit 39 = .ok (.getfield 9, 3) := by decide +kernel
theorem dX3_visit_42 : decode cX3_visit 42 = .ok (.iload 6, 2) := by decide +kernel
theorem dX3_visit_44 : decode cX3_visit 44 = .ok (.iload 4, 2) := by decide +kernel
theorem dX3_visit_46 : decode cX3_visit 46 = .ok (.iastore, 1) := by decide +kernel
theorem dX3_visit_47 : decode cX3_visit 47 = .ok (.aload_n 0, 1) := by decide +kernel
theorem dX3_visit_48 : decode cX3_visit 48 = .ok (.getfield 15, 3) := by decide +kernel
theorem dX3_visit_51 : decode cX3_visit 51 = .ok (.iload 5, 2) := by decide +kernel
theorem dX3_visit_53 : decode cX3_visit 53 = .ok (.iload_n 2, 1) := by decide +kernel
theorem dX3_visit_54 : decode cX3_visit 54 = .ok (.iastore, 1) := by decide +kernel
theorem dX3_visit_55 : decode cX3_visit 55 = .ok (.aload_n 0, 1) := by decide +kernel
theorem dX3_visit_56 : decode cX3_visit 56 = .ok (.getfield 18, 3) := by decide +kernel
theorem dX3_visit_59 : decode cX3_visit 59 = .ok (.iload 5, 2) := by decide +kernel
theorem dX3_visit_61 : decode cX3_visit 61 = .ok (.iload_n 3, 1) := by decide +kernel
theorem dX3_visit_62 : decode cX3_visit 62 = .ok (.iastore, 1) := by decide +kernel
theorem dX3_visit_63 : decode cX3_visit 63 = .ok (.iload 5, 2) := by decide +kernel
theorem dX3_visit_65 : decode cX3_visit 65 = .ok (.iconst 1, 1) := by decide +kernel
theorem dX3_visit_66 : decode cX3_visit 66 = .ok (.iadd, 1) := by decide +kernel
theorem dX3_visit_67 : decode cX3_visit 67 = .ok (.ireturn, 1) := by decide +kernel
set_option maxRecDepth 20000 in
theorem ggX4_init_X0_init : GoodIn wsX4_init wsX0_init := goodIn_r _ [25, 26, 2, 3, 27, 28, 29, 30, 31, 54, 55, 56, 57] (by decide +kernel) (by decide +kernel)
set_option maxRecDepth 20000 in
theorem gX4_init_X0_init : GoodIn wsX4_init (wsX0_init) := ggX4_init_X0_init
set_option maxRecDepth 20000 in
theorem ggX4_init_X3_init : GoodIn wsX4_init wsX3_init := goodIn_r _ [34, 35, 2, 3, 29, 36, 37, 38, 65, 66, 67] (by decide +kernel) (by decide +kernel)
set_option maxRecDepth 20000 in
theorem gX4_init_X3_init : GoodIn wsX4_init (wsX3_init) := ggX4_init_X3_init
set_option maxRecDepth 20000 in
theorem ggX4_init_X1_init : GoodIn wsX4_init wsX1_init := goodIn_r _ [41, 42, 2, 3, 43, 29, 44, 45, 46, 47, 68, 69, 70, 71, 72] (by decide +kernel) (by decide +kernel)
set_option maxRecDepth 20000 in
theorem gX4_init_X1_init : GoodIn wsX4_init (wsX1_init) := ggX4_init_X1_init
set_option maxRecDepth 20000 in
theorem ggX4_init_X2_init : GoodIn wsX4_init wsX2_init := goodIn_r _ [50, 51, 2, 3, 52, 53, 73] (by decide +kernel) (by decide +kernel)
set_option maxRecDepth 20000 in
theorem gX4_init_X2_init : GoodIn wsX4_init (wsX2_init) := ggX4_init_X2_init
theorem dX4_init_0 : decode cX4_init 0 = .ok (.aload_n 0, 1) := by decide +kernel
theorem dX4_init_1 : decode cX4_init 1 = .ok (.invokespecial 3, 3) := by decide +kernel
theorem dX4_init_4 : decode cX4_init 4 = .ok (.aload_n 0, 1) := by decide +kernel
theorem dX4_init_5 : decode cX4_init 5 = .ok (.new 9, 3) := by decide +kernel
theorem dX4_init_8 : decode cX4_init 8 = .ok (.dup, 1) := by decide +kernel
theorem dX4_init_9 : decode cX4_init 9 = .ok (.bipush 8, 2) := by decide +kernel
theorem dX4_init_11 : decode cX4_init 11 = .ok (.bipush 6, 2) := by decide +kernel
theorem dX4_init_13 : decode cX4_init 13 = .ok (.invokespecial 11, 3) := by decide +kernel
theorem dX4_init_16 : decode cX4_init 16 = .ok (.putfield 14, 3) := by decide +kernel
theorem dX4_init_19 : decode cX4_init 19 = .ok (.aload_n 0, 1) := by decide +kernel
theorem dX4_init_20 : decode cX4_init 20 = .ok (.new 9, 3) := by decide +kernel
theorem dX4_init_23 : decode cX4_init 23 = .ok (.dup, 1) := by decide +kernel
theorem dX4_init_24 : decode cX4_init 24 = .ok (.bipush 8, 2) := by decide +kernel
theorem dX4_init_26 : decode cX4_init 26 = .ok (.bipush 6, 2) := by decide +kernel
theorem dX4_init_28 : decode cX4_init 28 = .ok (.invokespecial 11, 3) := by decide +kernel
theorem dX4_init_31 : decode cX4_init 31 = .ok (.putfield 18, 3) := by decide +kernel
theorem dX4_init_34 : decode cX4_init 34 = .ok (.aload_n 0, 1) := by decide +kernel
theorem dX4_init_35 : decode cX4_init 35 = .ok (.new 21, 3) := by decide +kernel
theorem dX4_init_38 : decode cX4_init 38 = .ok (.dup, 1) := by decide +kernel
theorem dX4_init_39 : decode cX4_init 39 = .ok (.invokespecial 23, 3) := by decide +kernel
theorem dX4_init_42 : decode cX4_init 42 = .ok (.putfield 24, 3) := by decide +kernel
theorem dX4_init_45 : decode cX4_init 45 = .ok (.aload_n 0, 1) := by decide +kernel
theorem dX4_init_46 : decode cX4_init 46 = .ok (.new 28, 3) := by decide +kernel
theorem dX4_init_49 : decode cX4_init 49 = .ok (.dup, 1) := by decide +kernel
theorem dX4_init_50 : decode cX4_init 50 = .ok (.invokespecial 30, 3) := by decide +kernel
theorem dX4_init_53 : decode cX4_init 53 = .ok (.putfield 31, 3) := by decide +kernel
theorem dX4_init_56 : decode cX4_init 56 = .ok (.aload_n 0, 1) := by decide +kernel
theorem dX4_init_57 : decode cX4_init 57 = .ok (.new 35, 3) := by decide +kernel
theorem dX4_init_60 : decode cX4_init 60 = .ok (.dup, 1) := by decide +kernel
theorem dX4_init_61 : decode cX4_init 61 = .ok (.invokespecial 37, 3) := by decide +kernel
theorem dX4_init_64 : decode cX4_init 64 = .ok (.putfield 38, 3) := by decide +kernel
theorem dX4_init_67 : decode cX4_init 67 = .ok (.aload_n 0, 1) := by decide +kernel
theorem dX4_init_68 : decode cX4_init 68 = .ok (.iconst 0, 1) := by decide +kernel
theorem dX4_init_69 : decode cX4_init 69 = .ok (.putfield 42, 3) := by decide +kernel
theorem dX4_init_72 : decode cX4_init 72 = .ok (.aload_n 0, 1) := by decide +kernel
theorem dX4_init_73 : decode cX4_init 73 = .ok (.lconst 0, 1) := by decide +kernel
theorem dX4_init_74 : decode cX4_init 74 = .ok (.putfield 46, 3) := by decide +kernel
theorem dX4_init_77 : decode cX4_init 77 = .ok (.return_, 1) := by decide +kernel
set_option maxRecDepth 20000 in
theorem ggX4_setBoard_X4_isSide : GoodIn wsX4_setBoard wsX4_isSide := goodIn_r _ [8] (by decide +kernel) (by decide +kernel)
set_option maxRecDepth 20000 in
theorem gX4_setBoard_X4_isSide : GoodIn wsX4_setBoard (va_wsS RX4 50 yX4_isSide wsX4_isSide) := goodIn_app (goodIn_of _ (by decide +kernel)) ggX4_setBoard_X4_isSide
set_option maxRecDepth 20000 in
theorem ggX4_setBoard_X0_clear : GoodIn wsX4_setBoard wsX0_clear := goodIn_r _ [13, 14, 15, 16, 17, 18, 19, 20, 38, 39, 40, 41] (by decide +kernel) (by decide +kernel)
set_option maxRecDepth 20000 in
theorem gX4_setBoard_X0_clear : GoodIn wsX4_setBoard (wsV RX4 61 RX0 yX0_clear wsX0_clear) := goodIn_app (goodIn_of _ (by decide +kernel)) ggX4_setBoard_X0_clear
set_option maxRecDepth 20000 in
theorem ggX4_setBoard_X1_clear : GoodIn wsX4_setBoard wsX1_clear := goodIn_r _ [25, 26, 42, 43, 44, 45, 46] (by decide +kernel) (by decide +kernel)
set_option maxRecDepth 20000 in
theorem gX4_setBoard_X1_clear : GoodIn wsX4_setBoard (wsV RX4 64 RX1 yX1_clear wsX1_clear) := goodIn_app (goodIn_of _ (by decide +kernel)) ggX4_setBoard_X1_clear
set_option maxRecDepth 20000 in
theorem ggX4_setBoard_X0_size : GoodIn wsX4_setBoard wsX0_size := goodIn_r _ [30, 14, 15, 38, 39, 40, 41] (by decide +kernel) (by decide +kernel)
set_option maxRecDepth 20000 in
theorem gX4_setBoard_X0_size : GoodIn wsX4_setBoard (wsV RX4 66 RX0 yX0_size wsX0_size) := goodIn_app (goodIn_of _ (by decide +kernel)) ggX4_setBoard_X0_size
theorem dX4_setBoard_0 : decode cX4_setBoard 0 = .ok (.iload_n 1, 1) := by decide +kernel
theorem dX4_setBoard_1 : decode cX4_setBoard 1 = .ok (.invokestatic 50, 3) := by decide +kernel
theorem dX4_setBoard_4 : decode cX4_setBoard 4 = .ok (.ifCond .eq 10, 3) := by decide +kernel
theorem dX4_setBoard_7 : decode cX4_setBoard 7 = .ok (.iload_n 2, 1) := by decide +kernel
theorem dX4_setBoard_8 : decode cX4_setBoard 8 = .ok (.invokestatic 50, 3) := by decide +kernel
theorem dX4_setBoard_11 : decode cX4_setBoard 11 = .ok (.ifCond .ne 13, 3) := by decide +kernel
theorem dX4_setBoard_14 : decode cX4_setBoard 14 = .ok (.new 54, 3) := by decide +kernel
theorem dX4_setBoard_17 : decode cX4_setBoard 17 = .ok (.dup, 1) := by decide +kernel
theorem dX4_setBoard_18 : decode cX4_setBoard 18 = .ok (.ldc 56, 2) := by decide +kernel
theorem dX4_setBoard_20 : decode cX4_setBoard 20 = .ok (.invokespecial 58, 3) := by decide +kernel
theorem dX4_setBoard_23 : decode cX4_setBoard 23 = .ok (.athrow, 1) := by decide +kernel
theorem dX4_setBoard_24 : decode cX4_setBoard 24 = .ok (.aload_n 0, 1) := by decide +kernel
theorem dX4_setBoard_25 : decode cX4_setBoard 25 = .ok (.getfield 14, 3) := by decide +kernel
theorem dX4_setBoard_28 : decode cX4_setBoard 28 = .ok (.iload_n 1, 1) := by decide +kernel
theorem dX4_setBoard_29 : decode cX4_setBoard 29 = .ok (.iload_n 2, 1) := by decide +kernel
theorem dX4_setBoard_30 : decode cX4_setBoard 30 = .ok (.invokevirtual 61, 3) := by decide +kernel
theorem dX4_setBoard_33 : decode cX4_setBoard 33 = .ok (.aload_n 0, 1) := by decide +kernel
theorem dX4_setBoard_34 : decode cX4_setBoard 34 = .ok (.getfield 31, 3) := by decide +kernel
theorem dX4_setBoard_37 : decode cX4_setBoard 37 = .ok (.invokevirtual 64, 3) := by decide +kernel
theorem dX4_setBoard_40 : decode cX4_setBoard 40 = .ok (.aload_n 0, 1) := by decide +kernel
theorem dX4_setBoard_41 : decode cX4_setBoard 41 = .ok (.getfield 14, 3) := by decide +kernel
theorem dX4_setBoard_44 : decode cX4_setBoard 44 = .ok (.invokevirtual 66, 3) := by decide +kernel
theorem dX4_setBoard_47 : decode cX4_setBoard 47 = .ok (.ireturn, 1) := by decide +kernel
set_option maxRecDepth 20000 in
theorem ggX4_set_X0_cell : GoodIn wsX4_set wsX0_cell := goodIn_r _ [10, 11, 12, 29, 30, 31, 32] (by decide +kernel) (by decide +kernel)
set_option maxRecDepth 20000 in
theorem gX4_set_X0_cell : GoodIn wsX4_set (wsV RX4 70 RX0 yX0_cell wsX0_cell) := goodIn_app (goodIn_of _ (by decide +kernel)) ggX4_set_X0_cell
set_option maxRecDepth 20000 in
theorem ggX4_set_X0_kind : GoodIn wsX4_set wsX0_kind := goodIn_r _ [16, 17, 29, 30, 31, 32] (by decide +kernel) (by decide +kernel)
set_option maxRecDepth 20000 in
theorem gX4_set_X0_kind : GoodIn wsX4_set (wsV RX4 81 RX0 yX0_kind wsX0_kind) := goodIn_app (goodIn_of _ (by decide +kernel)) ggX4_set_X0_kind
set_option maxRecDepth 20000 in
theorem ggX4_set_X0_put : GoodIn wsX4_set wsX0_put := goodIn_r _ [21, 17, 29, 30, 31, 32] (by decide +kernel) (by decide +kernel)
set_option maxRecDepth 20000 in
theorem gX4_set_X0_put : GoodIn wsX4_set (wsV RX4 85 RX0 yX0_put wsX0_put) := goodIn_app (goodIn_of _ (by decide +kernel)) ggX4_set_X0_put
theorem dX4_set_0 : decode cX4_set 0 = .ok (.aload_n 0, 1) := by decide +kernel
theorem dX4_set_1 : decode cX4_set 1 = .ok (.getfield 14, 3) := by decide +kernel
theorem dX4_set_4 : decode cX4_set 4 = .ok (.iload_n 1, 1) := by decide +kernel
theorem dX4_set_5 : decode cX4_set 5 = .ok (.iload_n 2, 1) := by decide +kernel
theorem dX4_set_6 : decode cX4_set 6 = .ok (.invokevirtual 70, 3) := by decide +kernel
theorem dX4_set_9 : decode cX4_set 9 = .ok (.istore 4, 2) := by decide +kernel
theorem dX4_set_11 : decode cX4_set 11 = .ok (.iload 4, 2) := by decide +kernel
theorem dX4_set_13 : decode cX4_set 13 = .ok (.iconst (-1), 1) := by decide +kernel
theorem dX4_set_14 : decode cX4_set 14 = .ok (.if_icmp .ne 13, 3) := by decide +kernel
theorem dX4_set_17 : decode cX4_set 17 = .ok (.new 74, 3) := by decide +kernel
theorem dX4_set_20 : decode cX4_set 20 = .ok (.dup, 1) := by decide +kernel
theorem dX4_set_21 : decode cX4_set 21 = .ok (.ldc 76, 2) := by decide +kernel
theorem dX4_set_23 : decode cX4_set 23 = .ok (.invokespecial 78, 3) := by decide +kernel
theorem dX4_set_26 : decode cX4_set 26 = .ok (.athrow, 1) := by decide +kernel
theorem dX4_set_27 : decode cX4_set 27 = .ok (.iload_n 3, 1) := by decide +kernel
theorem dX4_set_28 : decode cX4_set 28 = .ok (.ifCond .lt 8, 3) := by decide +kernel
theorem dX4_set_31 : decode cX4_set 31 = .ok (.iload_n 3, 1) := by decide +kernel
theorem dX4_set_32 : decode cX4_set 32 = .ok (.iconst 3, 1) := by decide +kernel
theorem dX4_set_33 : decode cX4_set 33 = .ok (.if_icmp .le 13, 3) := by decide +kernel
theorem dX4_set_36 : decode cX4_set 36 = .ok (.new 54, 3) := by decide +kernel
theorem dX4_set_39 : decode cX4_set 39 = .ok (.dup, 1) := by decide +kernel
theorem dX4_set_40 : decode cX4_set 40 = .ok (.ldc 79, 2) := by decide +kernel
theorem dX4_set_42 : decode cX4_set 42 = .ok (.invokespecial 58, 3) := by decide +kernel
theorem dX4_set_45 : decode cX4_set 45 = .ok (.athrow, 1) := by decide +kernel
theorem dX4_set_46 : decode cX4_set 46 = .ok (.aload_n 0, 1) := by decide +kernel
theorem dX4_set_47 : decode cX4_set 47 = .ok (.getfield 14, 3) := by decide +kernel
theorem dX4_set_50 : decode cX4_set 50 = .ok (.iload 4, 2) := by decide +kernel
theorem dX4_set_52 : decode cX4_set 52 = .ok (.invokevirtual 81, 3) := by decide +kernel
theorem dX4_set_55 : decode cX4_set 55 = .ok (.istore 5, 2) := by decide +kernel
theorem dX4_set_57 : decode cX4_set 57 = .ok (.aload_n 0, 1) := by decide +kernel
theorem dX4_set_58 : decode cX4_set 58 = .ok (.getfield 14, 3) := by decide +kernel
theorem dX4_set_61 : decode cX4_set 61 = .ok (.iload 4, 2) := by decide +kernel
theorem dX4_set_63 : decode cX4_set 63 = .ok (.iload_n 3, 1) := by decide +kernel
theorem dX4_set_64 : decode cX4_set 64 = .ok (.invokevirtual 85, 3) := by decide +kernel
theorem dX4_set_67 : decode cX4_set 67 = .ok (.iload 5, 2) := by decide +kernel
theorem dX4_set_69 : decode cX4_set 69 = .ok (.ireturn, 1) := by decide +kernel
set_option maxRecDepth 20000 in
theorem ggX4_line_X0_cell : GoodIn wsX4_line wsX0_cell := goodIn_r _ [17, 18, 19, 45, 46, 47, 48] (by decide +kernel) (by decide +kernel)
set_option maxRecDepth 20000 in
theorem gX4_line_X0_cell : GoodIn wsX4_line (wsV RX4 70 RX0 yX0_cell wsX0_cell) := goodIn_app (goodIn_of _ (by decide +kernel)) ggX4_line_X0_cell
set_option maxRecDepth 20000 in
theorem ggX4_line_J6_compare_7cf53 : GoodIn wsX4_line wsJ6_compare_7cf53 := goodIn_r _ [23] (by decide +kernel) (by decide +kernel)
set_option maxRecDepth 20000 in
theorem gX4_line_J6_compare_7cf53 : GoodIn wsX4_line (va_wsS RX4 95 yJ6_compare_7cf53 wsJ6_compare_7cf53) := goodIn_app (goodIn_of _ (by decide +kernel)) ggX4_line_J6_compare_7cf53
set_option maxRecDepth 20000 in
theorem ggX4_line_X4_lay : GoodIn wsX4_line wsX4_lay := goodIn_r _ [28, 5, 13, 14, 15, 16, 17, 18, 19, 29, 30, 31, 32, 33, 34, 35, 36, 37, 38, 39, 40, 41, 42, 43, 44, 45, 46, 47, 48] (by decide +kernel) (by decide +kernel)
set_option maxRecDepth 20000 in
theorem gX4_line_X4_lay : GoodIn wsX4_line (wsV RX4 103 RX4 yX4_lay wsX4_lay) := goodIn_app (goodIn_of _ (by decide +kernel)) ggX4_line_X4_lay
theorem dX4_line_0 : decode cX4_line 0 = .ok (.aload_n 0, 1) := by decide +kernel
theorem dX4_line_1 : decode cX4_line 1 = .ok (.getfield 14, 3) := by decide +kernel
theorem dX4_line_4 : decode cX4_line 4 = .ok (.iload_n 1, 1) := by decide +kernel
theorem dX4_line_5 : decode cX4_line 5 = .ok (.iload_n 2, 1) := by decide +kernel
theorem dX4_line_6 : decode cX4_line 6 = .ok (.invokevirtual 70, 3) := by decide +kernel
theorem dX4_line_9 : decode cX4_line 9 = .ok (.iconst (-1), 1) := by decide +kernel
theorem dX4_line_10 : decode cX4_line 10 = .ok (.if_icmp .eq 17, 3) := by decide +kernel
theorem dX4_line_13 : decode cX4_line 13 = .ok (.aload_n 0, 1) := by decide +kernel
theorem dX4_line_14 : decode cX4_line 14 = .ok (.getfield 14, 3) := by decide +kernel
theorem dX4_line_17 : decode cX4_line 17 = .ok (.iload_n 3, 1) := by decide +kernel
theorem dX4_line_18 : decode cX4_line 18 = .ok (.iload 4, 2) := by decide +kernel
theorem dX4_line_20 : decode cX4_line 20 = .ok (.invokevirtual 70, 3) := by decide +kernel
theorem dX4_line_23 : decode cX4_line 23 = .ok (.iconst (-1), 1) := by decide +kernel
theorem dX4_line_24 : decode cX4_line 24 = .ok (.if_icmp .ne 13, 3) := by decide +kernel
theorem dX4_line_27 : decode cX4_line 27 = .ok (.new 74, 3) := by decide +kernel
theorem dX4_line_30 : decode cX4_line 30 = .ok (.dup, 1) := by decide +kernel
theorem dX4_line_31 : decode cX4_line 31 = .ok (.ldc 76, 2) := by decide +kernel
theorem dX4_line_33 : decode cX4_line 33 = .ok (.invokespecial 78, 3) := by decide +kernel
theorem dX4_line_36 : decode cX4_line 36 = .ok (.athrow, 1) := by decide +kernel
theorem dX4_line_37 : decode cX4_line 37 = .ok (.iload_n 3, 1) := by decide +kernel
theorem dX4_line_38 : decode cX4_line 38 = .ok (.iload_n 1, 1) := by decide +kernel
theorem dX4_line_39 : decode cX4_line 39 = .ok (.isub, 1) := by decide +kernel
theorem dX4_line_40 : decode cX4_line 40 = .ok (.invokestatic 88, 3) := by decide +kernel
theorem dX4_line_43 : decode cX4_line 43 = .ok (.istore 5, 2) := by decide +kernel
theorem dX4_line_45 : decode cX4_line 45 = .ok (.iload 4, 2) := by decide +kernel
theorem dX4_line_47 : decode cX4_line 47 = .ok (.iload_n 2, 1) := by decide +kernel
theorem dX4_line_48 : decode cX4_line 48 = .ok (.isub, 1) := by decide +kernel
theorem dX4_line_49 : decode cX4_line 49 = .ok (.invokestatic 88, 3) := by decide +kernel
theorem dX4_line_52 : decode cX4_line 52 = .ok (.istore 6, 2) := by decide +kernel
theorem dX4_line_54 : decode cX4_line 54 = .ok (.iload 5, 2) := by decide +kernel
theorem dX4_line_56 : decode cX4_line 56 = .ok (.ifCond .eq 25, 3) := by decide +kernel
theorem dX4_line_59 : decode cX4_line 59 = .ok (.iload 6, 2) := by decide +kernel
theorem dX4_line_61 : decode cX4_line 61 = .ok (.ifCond .eq 20, 3) := by decide +kernel
theorem dX4_line_64 : decode cX4_line 64 = .ok (.iload 5, 2) := by decide +kernel
theorem dX4_line_66 : decode cX4_line 66 = .ok (.iload 6, 2) := by decide +kernel
theorem dX4_line_68 : decode cX4_line 68 = .ok (.if_icmp .eq 13, 3) := by decide +kernel
theorem dX4_line_71 : decode cX4_line 71 = .ok (.new 54, 3) := by decide +kernel
theorem dX4_line_74 : decode cX4_line 74 = .ok (.dup, 1) := by decide +kernel
theorem dX4_line_75 : decode cX4_line 75 = .ok (.ldc 93, 2) := by decide +kernel
theorem dX4_line_77 : decode cX4_line 77 = .ok (.invokespecial 58, 3) := by decide +kernel
theorem dX4_line_80 : decode cX4_line 80 = .ok (.athrow, 1) := by decide +kernel
theorem dX4_line_81 : decode cX4_line 81 = .ok (.iload_n 3, 1) := by decide +kernel
theorem dX4_line_82 : decode cX4_line 82 = .ok (.iload_n 1, 1) := by decide +kernel
theorem dX4_line_83 : decode cX4_line 83 = .ok (.invokestatic 95, 3) := by decide +kernel
theorem dX4_line_86 : decode cX4_line 86 = .ok (.istore 7, 2) := by decide +kernel
theorem dX4_line_88 : decode cX4_line 88 = .ok (.iload 4, 2) := by decide +kernel
theorem dX4_line_90 : decode cX4_line 90 = .ok (.iload_n 2, 1) := by decide +kernel
theorem dX4_line_91 : decode cX4_line 91 = .ok (.invokestatic 95, 3) := by decide +kernel
theorem dX4_line_94 : decode cX4_line 94 = .ok (.istore 8, 2) := by decide +kernel
theorem dX4_line_96 : decode cX4_line 96 = .ok (.iload 5, 2) := by decide +kernel
theorem dX4_line_98 : decode cX4_line 98 = .ok (.iload 6, 2) := by decide +kernel
theorem dX4_line_100 : decode cX4_line 100 = .ok (.invokestatic 100, 3) := by decide +kernel
theorem dX4_line_103 : decode cX4_line 103 = .ok (.istore 9, 2) := by decide +kernel
theorem dX4_line_105 : decode cX4_line 105 = .ok (.iconst 0, 1) := by decide +kernel
theorem dX4_line_106 : decode cX4_line 106 = .ok (.istore 10, 2) := by decide +kernel
theorem dX4_line_108 : decode cX4_line 108 = .ok (.iconst 0, 1) := by decide +kernel
theorem dX4_line_109 : decode cX4_line 109 = .ok (.istore 11, 2) := by decide +kernel
theorem dX4_line_111 : decode cX4_line 111 = .ok (.iload 11, 2) := by decide +kernel
theorem dX4_line_113 : decode cX4_line 113 = .ok (.iload 9, 2) := by decide +kernel
theorem dX4_line_115 : decode cX4_line 115 = .ok (.if_icmp .gt 32, 3) := by decide +kernel
theorem dX4_line_118 : decode cX4_line 118 = .ok (.iload 10, 2) := by decide +kernel
theorem dX4_line_120 : decode cX4_line 120 = .ok (.aload_n 0, 1) := by decide +kernel
theorem dX4_line_121 : decode cX4_line 121 = .ok (.iload_n 1, 1) := by decide +kernel
theorem dX4_line_122 : decode cX4_line 122 = .ok (.iload 11, 2) := by decide +kernel
theorem dX4_line_124 : decode cX4_line 124 = .ok (.iload 7, 2) := by decide +kernel
theorem dX4_line_126 : decode cX4_line 126 = .ok (.imul, 1) := by decide +kernel
theorem dX4_line_127 : decode cX4_line 127 = .ok (.iadd, 1) := by decide +kernel
theorem dX4_line_128 : decode cX4_line 128 = .ok (.iload_n 2, 1) := by decide +kernel
theorem dX4_line_129 : decode cX4_line 129 = .ok (.iload 11, 2) := by decide +kernel
theorem dX4_line_131 : decode cX4_line 131 = .ok (.iload 8, 2) := by decide +kernel
theorem dX4_line_133 : decode cX4_line 133 = .ok (.imul, 1) := by decide +kernel
theorem dX4_line_134 : decode cX4_line 134 = .ok (.iadd, 1) := by decide +kernel
theorem dX4_line_135 : decode cX4_line 135 = .ok (.invokevirtual 103, 3) := by decide +kernel
theorem dX4_line_138 : decode cX4_line 138 = .ok (.iadd, 1) := by decide +kernel
theorem dX4_line_139 : decode cX4_line 139 = .ok (.istore 10, 2) := by decide +kernel
theorem dX4_line_141 : decode cX4_line 141 = .ok (.iinc 11 1, 3) := by decide +kernel
theorem dX4_line_144 : decode cX4_line 144 = .ok (.goto (-33), 3) := by decide +kernel
theorem dX4_line_147 : decode cX4_line 147 = .ok (.iload 10, 2) := by decide +kernel
theorem dX4_line_149 : decode cX4_line 149 = .ok (.ireturn, 1) := by decide +kernel
set_option maxRecDepth 20000 in
theorem ggX4_ring_X0_holds : GoodIn wsX4_ring wsX0_holds := goodIn_r _ [10, 11, 12, 13, 14, 15, 9, 16, 39, 40, 41, 42] (by decide +kernel) (by decide +kernel)
set_option maxRecDepth 20000 in
theorem gX4_ring_X0_holds : GoodIn wsX4_ring (wsV RX4 108 RX0 yX0_holds wsX0_holds) := goodIn_app (goodIn_of _ (by decide +kernel)) ggX4_ring_X0_holds
set_option maxRecDepth 20000 in
theorem ggX4_ring_X4_lay : GoodIn wsX4_ring wsX4_lay := goodIn_r _ [21, 5, 22, 14, 15, 9, 16, 11, 12, 23, 24, 25, 26, 27, 28, 29, 30, 31, 32, 33, 34, 35, 36, 37, 38, 39, 40, 41, 42] (by decide +kernel) (by decide +kernel)
set_option maxRecDepth 20000 in
theorem gX4_ring_X4_lay : GoodIn wsX4_ring (wsV RX4 103 RX4 yX4_lay wsX4_lay) := goodIn_app (goodIn_of _ (by decide +kernel)) ggX4_ring_X4_lay
theorem dX4_ring_0 : decode cX4_ring 0 = .ok (.iload_n 3, 1) := by decide +kernel
theorem dX4_ring_1 : decode cX4_ring 1 = .ok (.iconst 3, 1) := by decide +kernel
theorem dX4_ring_2 : decode cX4_ring 2 = .ok (.if_icmp .lt 9, 3) := by decide +kernel
theorem dX4_ring_5 : decode cX4_ring 5 = .ok (.iload 4, 2) := by decide +kernel
theorem dX4_ring_7 : decode cX4_ring 7 = .ok (.iconst 3, 1) := by decide +kernel
theorem dX4_ring_8 : decode cX4_ring 8 = .ok (.if_icmp .ge 13, 3) := by decide +kernel
theorem dX4_ring_11 : decode cX4_ring 11 = .ok (.new 54, 3) := by decide +kernel
theorem dX4_ring_14 : decode cX4_ring 14 = .ok (.dup, 1) := by decide +kernel
theorem dX4_ring_15 : decode cX4_ring 15 = .ok (.ldc 106, 2) := by decide +kernel
theorem dX4_ring_17 : decode cX4_ring 17 = .ok (.invokespecial 58, 3) := by decide +kernel
theorem dX4_ring_20 : decode cX4_ring 20 = .ok (.athrow, 1) := by decide +kernel
theorem dX4_ring_21 : decode cX4_ring 21 = .ok (.aload_n 0, 1) := by decide +kernel
theorem dX4_ring_22 : decode cX4_ring 22 = .ok (.getfield 14, 3) := by decide +kernel
theorem dX4_ring_25 : decode cX4_ring 25 = .ok (.iload_n 1, 1) := by decide +kernel
theorem dX4_ring_26 : decode cX4_ring 26 = .ok (.iload_n 2, 1) := by decide +kernel
theorem dX4_ring_27 : decode cX4_ring 27 = .ok (.iload_n 3, 1) := by decide +kernel
theorem dX4_ring_28 : decode cX4_ring 28 = .ok (.iload 4, 2) := by decide +kernel
theorem dX4_ring_30 : decode cX4_ring 30 = .ok (.invokevirtual 108, 3) := by decide +kernel
theorem dX4_ring_33 : decode cX4_ring 33 = .ok (.ifCond .ne 13, 3) := by decide +kernel
theorem dX4_ring_36 : decode cX4_ring 36 = .ok (.new 74, 3) := by decide +kernel
theorem dX4_ring_39 : decode cX4_ring 39 = .ok (.dup, 1) := by decide +kernel
theorem dX4_ring_40 : decode cX4_ring 40 = .ok (.ldc 112, 2) := by decide +kernel
theorem dX4_ring_42 : decode cX4_ring 42 = .ok (.invokespecial 78, 3) := by decide +kernel
theorem dX4_ring_45 : decode cX4_ring 45 = .ok (.athrow, 1) := by decide +kernel
theorem dX4_ring_46 : decode cX4_ring 46 = .ok (.iconst 0, 1) := by decide +kernel
theorem dX4_ring_47 : decode cX4_ring 47 = .ok (.istore 5, 2) := by decide +kernel
theorem dX4_ring_49 : decode cX4_ring 49 = .ok (.iconst 1, 1) := by decide +kernel
theorem dX4_ring_50 : decode cX4_ring 50 = .ok (.istore 6, 2) := by decide +kernel
theorem dX4_ring_52 : decode cX4_ring 52 = .ok (.iload 6, 2) := by decide +kernel
theorem dX4_ring_54 : decode cX4_ring 54 = .ok (.iload_n 3, 1) := by decide +kernel
theorem dX4_ring_55 : decode cX4_ring 55 = .ok (.iconst 1, 1) := by decide +kernel
theorem dX4_ring_56 : decode cX4_ring 56 = .ok (.isub, 1) := by decide +kernel
theorem dX4_ring_57 : decode cX4_ring 57 = .ok (.if_icmp .ge 38, 3) := by decide +kernel
theorem dX4_ring_60 : decode cX4_ring 60 = .ok (.iload 5, 2) := by decide +kernel
theorem dX4_ring_62 : decode cX4_ring 62 = .ok (.aload_n 0, 1) := by decide +kernel
theorem dX4_ring_63 : decode cX4_ring 63 = .ok (.iload_n 1, 1) := by decide +kernel
theorem dX4_ring_64 : decode cX4_ring 64 = .ok (.iload 6, 2) := by decide +kernel
theorem dX4_ring_66 : decode cX4_ring 66 = .ok (.iadd, 1) := by decide +kernel
theorem dX4_ring_67 : decode cX4_ring 67 = .ok (.iload_n 2, 1) := by decide +kernel
theorem dX4_ring_68 : decode cX4_ring 68 = .ok (.invokevirtual 103, 3) := by decide +kernel
theorem dX4_ring_71 : decode cX4_ring 71 = .ok (.aload_n 0, 1) := by decide +kernel
theorem dX4_ring_72 : decode cX4_ring 72 = .ok (.iload_n 1, 1) := by decide +kernel
theorem dX4_ring_73 : decode cX4_ring 73 = .ok (.iload 6, 2) := by decide +kernel
theorem dX4_ring_75 : decode cX4_ring 75 = .ok (.iadd, 1) := by decide +kernel
theorem dX4_ring_76 : decode cX4_ring 76 = .ok (.iload_n 2, 1) := by decide +kernel
theorem dX4_ring_77 : decode cX4_ring 77 = .ok (.iload 4, 2) := by decide +kernel
theorem dX4_ring_79 : decode cX4_ring 79 = .ok (.iadd, 1) := by decide +kernel
theorem dX4_ring_80 : decode cX4_ring 80 = .ok (.iconst 1, 1) := by decide +kernel
theorem dX4_ring_81 : decode cX4_ring 81 = .ok (.isub, 1) := by decide +kernel
theorem dX4_ring_82 : decode cX4_ring 82 = .ok (.invokevirtual 103, 3) := by decide +kernel
theorem dX4_ring_85 : decode cX4_ring 85 = .ok (.iadd, 1) := by decide +kernel
theorem dX4_ring_86 : decode cX4_ring 86 = .ok (.iadd, 1) := by decide +kernel
theorem dX4_ring_87 : decode cX4_ring 87 = .ok (.istore 5, 2) := by decide +kernel
theorem dX4_ring_89 : decode cX4_ring 89 = .ok (.iinc 6 1, 3) := by decide +kernel
theorem dX4_ring_92 : decode cX4_ring 92 = .ok (.goto (-40), 3) := by decide +kernel
theorem dX4_ring_95 : decode cX4_ring 95 = .ok (.iconst 1, 1) := by decide +kernel
theorem dX4_ring_96 : decode cX4_ring 96 = .ok (.istore 6, 2) := by decide +kernel
theorem dX4_ring_98 : decode cX4_ring 98 = .ok (.iload 6, 2) := by decide +kernel
theorem dX4_ring_100 : decode cX4_ring 100 = .ok (.iload 4, 2) := by decide +kernel
theorem dX4_ring_102 : decode cX4_ring 102 = .ok (.iconst 1, 1) := by decide +kernel
theorem dX4_ring_103 : decode cX4_ring 103 = .ok (.isub, 1) := by decide +kernel
theorem dX4_ring_104 : decode cX4_ring 104 = .ok (.if_icmp .ge 37, 3) := by decide +kernel
theorem dX4_ring_107 : decode cX4_ring 107 = .ok (.iload 5, 2) := by decide +kernel
theorem dX4_ring_109 : decode cX4_ring 109 = .ok (.aload_n 0, 1) := by decide +kernel
theorem dX4_ring_110 : decode cX4_ring 110 = .ok (.iload_n 1, 1) := by decide +kernel
theorem dX4_ring_111 : decode cX4_ring 111 = .ok (.iload_n 2, 1) := by decide +kernel
theorem dX4_ring_112 : decode cX4_ring 112 = .ok (.iload 6, 2) := by decide +kernel
theorem dX4_ring_114 : decode cX4_ring 114 = .ok (.iadd, 1) := by decide +kernel
theorem dX4_ring_115 : decode cX4_ring 115 = .ok (.invokevirtual 103, 3) := by decide +kernel
theorem dX4_ring_118 : decode cX4_ring 118 = .ok (.aload_n 0, 1) := by decide +kernel
theorem dX4_ring_119 : decode cX4_ring 119 = .ok (.iload_n 1, 1) := by decide +kernel
theorem dX4_ring_120 : decode cX4_ring 120 = .ok (.iload_n 3, 1) := by decide +kernel
theorem dX4_ring_121 : decode cX4_ring 121 = .ok (.iadd, 1) := by decide +kernel
theorem dX4_ring_122 : decode cX4_ring 122 = .ok (.iconst 1, 1) := by decide +kernel
theorem dX4_ring_123 : decode cX4_ring 123 = .ok (.isub, 1) := by decide +kernel
theorem dX4_ring_124 : decode cX4_ring 124 = .ok (.iload_n 2, 1) := by decide +kernel
theorem dX4_ring_125 : decode cX4_ring 125 = .ok (.iload 6, 2) := by decide +kernel
theorem dX4_ring_127 : decode cX4_ring 127 = .ok (.iadd, 1) := by decide +kernel
theorem dX4_ring_128 : decode cX4_ring 128 = .ok (.invokevirtual 103, 3) := by decide +kernel
theorem dX4_ring_131 : decode cX4_ring 131 = .ok (.iadd, 1) := by decide +kernel
theorem dX4_ring_132 : decode cX4_ring 132 = .ok (.iadd, 1) := by decide +kernel
theorem dX4_ring_133 : decode cX4_ring 133 = .ok (.istore 5, 2) := by decide +kernel
theorem dX4_ring_135 : decode cX4_ring 135 = .ok (.iinc 6 1, 3) := by decide +kernel
theorem dX4_ring_138 : decode cX4_ring 138 = .ok (.goto (-40), 3) := by decide +kernel
theorem dX4_ring_141 : decode cX4_ring 141 = .ok (.iload 5, 2) := by decide +kernel
theorem dX4_ring_143 : decode cX4_ring 143 = .ok (.ireturn, 1) := by decide +kernel
set_option maxRecDepth 20000 in
theorem ggX4_stamp_X0_holds : GoodIn wsX4_stamp wsX0_holds := goodIn_r _ [9, 10, 11, 12, 13, 14, 8, 15, 37, 38, 39, 40] (by decide +kernel) (by decide +kernel)
set_option maxRecDepth 20000 in
theorem gX4_stamp_X0_holds : GoodIn wsX4_stamp (wsV RX4 108 RX0 yX0_holds wsX0_holds) := goodIn_app (goodIn_of _ (by decide +kernel)) ggX4_stamp_X0_holds
set_option maxRecDepth 20000 in
theorem ggX4_stamp_X4_turned : GoodIn wsX4_stamp wsX4_turned := goodIn_r _ [19] (by decide +kernel) (by decide +kernel)
set_option maxRecDepth 20000 in
theorem gX4_stamp_X4_turned : GoodIn wsX4_stamp (va_wsS RX4 118 yX4_turned wsX4_turned) := goodIn_app (goodIn_of _ (by decide +kernel)) ggX4_stamp_X4_turned
set_option maxRecDepth 20000 in
theorem ggX4_stamp_X0_cell : GoodIn wsX4_stamp wsX0_cell := goodIn_r _ [15, 10, 11, 37, 38, 39, 40] (by decide +kernel) (by decide +kernel)
set_option maxRecDepth 20000 in
theorem gX4_stamp_X0_cell : GoodIn wsX4_stamp (wsV RX4 70 RX0 yX0_cell wsX0_cell) := goodIn_app (goodIn_of _ (by decide +kernel)) ggX4_stamp_X0_cell
set_option maxRecDepth 20000 in
theorem ggX4_stamp_X0_kind : GoodIn wsX4_stamp wsX0_kind := goodIn_r _ [24, 25, 37, 38, 39, 40] (by decide +kernel) (by decide +kernel)
set_option maxRecDepth 20000 in
theorem gX4_stamp_X0_kind : GoodIn wsX4_stamp (wsV RX4 81 RX0 yX0_kind wsX0_kind) := goodIn_app (goodIn_of _ (by decide +kernel)) ggX4_stamp_X0_kind
set_option maxRecDepth 20000 in
theorem ggX4_stamp_X0_put : GoodIn wsX4_stamp wsX0_put := goodIn_r _ [29, 25, 37, 38, 39, 40] (by decide +kernel) (by decide +kernel)
set_option maxRecDepth 20000 in
theorem gX4_stamp_X0_put : GoodIn wsX4_stamp (wsV RX4 85 RX0 yX0_put wsX0_put) := goodIn_app (goodIn_of _ (by decide +kernel)) ggX4_stamp_X0_put
theorem dX4_stamp_0 : decode cX4_stamp 0 = .ok (.iload_n 1, 1) := by decide +kernel
theorem dX4_stamp_1 : decode cX4_stamp 1 = .ok (.ifCond .lt 17, 3) := by decide +kernel
theorem dX4_stamp_4 : decode cX4_stamp 4 = .ok (.iload_n 1, 1) := by decide +kernel
theorem dX4_stamp_5 : decode cX4_stamp 5 = .ok (.iconst 4, 1) := by decide +kernel
theorem dX4_stamp_6 : decode cX4_stamp 6 = .ok (.if_icmp .ge 12, 3) := by decide +kernel
theorem dX4_stamp_9 : decode cX4_stamp 9 = .ok (.iload_n 2, 1) := by decide +kernel
theorem dX4_stamp_10 : decode cX4_stamp 10 = .ok (.ifCond .lt 8, 3) := by decide +kernel
theorem dX4_stamp_13 : decode cX4_stamp 13 = .ok (.iload_n 2, 1) := by decide +kernel
theorem dX4_stamp_14 : decode cX4_stamp 14 = .ok (.iconst 4, 1) := by decide +kernel
theorem dX4_stamp_15 : decode cX4_stamp 15 = .ok (.if_icmp .lt 13, 3) := by decide +kernel
theorem dX4_stamp_18 : decode cX4_stamp 18 = .ok (.new 74, 3) := by decide +kernel
theorem dX4_stamp_21 : decode cX4_stamp 21 = .ok (.dup, 1) := by decide +kernel
theorem dX4_stamp_22 : decode cX4_stamp 22 = .ok (.ldc 114, 2) := by decide +kernel
theorem dX4_stamp_24 : decode cX4_stamp 24 = .ok (.invokespecial 78, 3) := by decide +kernel
theorem dX4_stamp_27 : decode cX4_stamp 27 = .ok (.athrow, 1) := by decide +kernel
theorem dX4_stamp_28 : decode cX4_stamp 28 = .ok (.aload_n 0, 1) := by decide +kernel
theorem dX4_stamp_29 : decode cX4_stamp 29 = .ok (.getfield 14, 3) := by decide +kernel
theorem dX4_stamp_32 : decode cX4_stamp 32 = .ok (.iload_n 3, 1) := by decide +kernel
theorem dX4_stamp_33 : decode cX4_stamp 33 = .ok (.iload 4, 2) := by decide +kernel
theorem dX4_stamp_35 : decode cX4_stamp 35 = .ok (.iconst 3, 1) := by decide +kernel
theorem dX4_stamp_36 : decode cX4_stamp 36 = .ok (.iconst 3, 1) := by decide +kernel
theorem dX4_stamp_37 : decode cX4_stamp 37 = .ok (.invokevirtual 108, 3) := by decide +kernel
theorem dX4_stamp_40 : decode cX4_stamp 40 = .ok (.ifCond .ne 13, 3) := by decide +kernel
theorem dX4_stamp_43 : decode cX4_stamp 43 = .ok (.new 74, 3) := by decide +kernel
theorem dX4_stamp_46 : decode cX4_stamp 46 = .ok (.dup, 1) := by decide +kernel
theorem dX4_stamp_47 : decode cX4_stamp 47 = .ok (.ldc 116, 2) := by decide +kernel
theorem dX4_stamp_49 : decode cX4_stamp 49 = .ok (.invokespecial 78, 3) := by decide +kernel
theorem dX4_stamp_52 : decode cX4_stamp 52 = .ok (.athrow, 1) := by decide +kernel
theorem dX4_stamp_53 : decode cX4_stamp 53 = .ok (.iconst 0, 1) := by decide +kernel
theorem dX4_stamp_54 : decode cX4_stamp 54 = .ok (.istore 5, 2) := by decide +kernel
theorem dX4_stamp_56 : decode cX4_stamp 56 = .ok (.iconst 0, 1) := by decide +kernel
theorem dX4_stamp_57 : decode cX4_stamp 57 = .ok (.istore 6, 2) := by decide +kernel
theorem dX4_stamp_59 : decode cX4_stamp 59 = .ok (.iload 6, 2) := by decide +kernel
theorem dX4_stamp_61 : decode cX4_stamp 61 = .ok (.bipush 9, 2) := by decide +kernel
theorem dX4_stamp_63 : decode cX4_stamp 63 = .ok (.if_icmp .ge 80, 3) := by decide +kernel
theorem dX4_stamp_66 : decode cX4_stamp 66 = .ok (.iload 6, 2) := by decide +kernel
theorem dX4_stamp_68 : decode cX4_stamp 68 = .ok (.iload_n 2, 1) := by decide +kernel
theorem dX4_stamp_69 : decode cX4_stamp 69 = .ok (.invokestatic 118, 3) := by decide +kernel
theorem dX4_stamp_72 : decode cX4_stamp 72 = .ok (.istore 7, 2) := by decide +kernel
theorem dX4_stamp_74 : decode cX4_stamp 74 = .ok (.aload_n 0, 1) := by decide +kernel
theorem dX4_stamp_75 : decode cX4_stamp 75 = .ok (.getfield 14, 3) := by decide +kernel
theorem dX4_stamp_78 : decode cX4_stamp 78 = .ok (.iload_n 3, 1) := by decide +kernel
theorem dX4_stamp_79 : decode cX4_stamp 79 = .ok (.iload 7, 2) := by decide +kernel
theorem dX4_stamp_81 : decode cX4_stamp 81 = .ok (.iconst 3, 1) := by decide +kernel
theorem dX4_stamp_82 : decode cX4_stamp 82 = .ok (.irem, 1) := by decide +kernel
theorem dX4_stamp_83 : decode cX4_stamp 83 = .ok (.iadd, 1) := by decide +kernel
theorem dX4_stamp_84 : decode cX4_stamp 84 = .ok (.iload 4, 2) := by decide +kernel
theorem dX4_stamp_86 : decode cX4_stamp 86 = .ok (.iload 7, 2) := by decide +kernel
theorem dX4_stamp_88 : decode cX4_stamp 88 = .ok (.iconst 3, 1) := by decide +kernel
theorem dX4_stamp_89 : decode cX4_stamp 89 = .ok (.idiv, 1) := by decide +kernel
theorem dX4_stamp_90 : decode cX4_stamp 90 = .ok (.iadd, 1) := by decide +kernel
theorem dX4_stamp_91 : decode cX4_stamp 91 = .ok (.invokevirtual 70, 3) := by decide +kernel
theorem dX4_stamp_94 : decode cX4_stamp 94 = .ok (.istore 8, 2) := by decide +kernel
theorem dX4_stamp_96 : decode cX4_stamp 96 = .ok (.getstatic 121, 3) := by decide +kernel
theorem dX4_stamp_99 : decode cX4_stamp 99 = .ok (.iload_n 1, 1) := by decide +kernel
theorem dX4_stamp_100 : decode cX4_stamp 100 = .ok (.bipush 9, 2) := by decide +kernel
theorem dX4_stamp_102 : decode cX4_stamp 102 = .ok (.imul, 1) := by decide +kernel
theorem dX4_stamp_103 : decode cX4_stamp 103 = .ok (.iload 6, 2) := by decide +kernel
theorem dX4_stamp_105 : decode cX4_stamp 105 = .ok (.iadd, 1) := by decide +kernel
theorem dX4_stamp_106 : decode cX4_stamp 106 = .ok (.iaload, 1) := by decide +kernel
theorem dX4_stamp_107 : decode cX4_stamp 107 = .ok (.istore 9, 2) := by decide +kernel
theorem dX4_stamp_109 : decode cX4_stamp 109 = .ok (.aload_n 0, 1) := by decide +kernel
theorem dX4_stamp_110 : decode cX4_stamp 110 = .ok (.getfield 14, 3) := by decide +kernel
theorem dX4_stamp_113 : decode cX4_stamp 113 = .ok (.iload 8, 2) := by decide +kernel
theorem dX4_stamp_115 : decode cX4_stamp 115 = .ok (.invokevirtual 81, 3) := by decide +kernel
theorem dX4_stamp_118 : decode cX4_stamp 118 = .ok (.iload 9, 2) := by decide +kernel
theorem dX4_stamp_120 : decode cX4_stamp 120 = .ok (.if_icmp .eq 17, 3) := by decide +kernel
theorem dX4_stamp_123 : decode cX4_stamp 123 = .ok (.aload_n 0, 1) := by decide +kernel
theorem dX4_stamp_124 : decode cX4_stamp 124 = .ok (.getfield 14, 3) := by decide +kernel
theorem dX4_stamp_127 : decode cX4_stamp 127 = .ok (.iload 8, 2) := by decide +kernel
theorem dX4_stamp_129 : decode cX4_stamp 129 = .ok (.iload 9, 2) := by decide +kernel
theorem dX4_stamp_131 : decode cX4_stamp 131 = .ok (.invokevirtual 85, 3) := by decide +kernel
theorem dX4_stamp_134 : decode cX4_stamp 134 = .ok (.iinc 5 1, 3) := by decide +kernel
theorem dX4_stamp_137 : decode cX4_stamp 137 = .ok (.iinc 6 1, 3) := by decide +kernel
theorem dX4_stamp_140 : decode cX4_stamp 140 = .ok (.goto (-81), 3) := by decide +kernel
theorem dX4_stamp_143 : decode cX4_stamp 143 = .ok (.iload 5, 2) := by decide +kernel
theorem dX4_stamp_145 : decode cX4_stamp 145 = .ok (.ireturn, 1) := by decide +kernel
set_option maxRecDepth 20000 in
theorem ggX4_spark_X0_cell : GoodIn wsX4_spark wsX0_cell := goodIn_r _ [12, 13, 14, 40, 41, 42, 43] (by decide +kernel) (by decide +kernel)
set_option maxRecDepth 20000 in
theorem gX4_spark_X0_cell : GoodIn wsX4_spark (wsV RX4 70 RX0 yX0_cell wsX0_cell) := goodIn_app (goodIn_of _ (by decide +kernel)) ggX4_spark_X0_cell
set_option maxRecDepth 20000 in
theorem ggX4_spark_X0_kind : GoodIn wsX4_spark wsX0_kind := goodIn_r _ [18, 19, 40, 41, 42, 43] (by decide +kernel) (by decide +kernel)
set_option maxRecDepth 20000 in
theorem gX4_spark_X0_kind : GoodIn wsX4_spark (wsV RX4 81 RX0 yX0_kind wsX0_kind) := goodIn_app (goodIn_of _ (by decide +kernel)) ggX4_spark_X0_kind
set_option maxRecDepth 20000 in
theorem ggX4_spark_X0_put : GoodIn wsX4_spark wsX0_put := goodIn_r _ [23, 19, 40, 41, 42, 43] (by decide +kernel) (by decide +kernel)
set_option maxRecDepth 20000 in
theorem gX4_spark_X0_put : GoodIn wsX4_spark (wsV RX4 85 RX0 yX0_put wsX0_put) := goodIn_app (goodIn_of _ (by decide +kernel)) ggX4_spark_X0_put
set_option maxRecDepth 20000 in
theorem ggX4_spark_X0_many : GoodIn wsX4_spark wsX0_many := goodIn_r _ [27, 28, 29, 30, 11, 31, 13, 14, 32, 16, 17, 18, 19, 40, 41, 42, 43] (by decide +kernel) (by decide +kernel)
set_option maxRecDepth 20000 in
theorem gX4_spark_X0_many : GoodIn wsX4_spark (wsV RX4 138 RX0 yX0_many wsX0_many) := goodIn_app (goodIn_of _ (by decide +kernel)) ggX4_spark_X0_many
theorem dX4_spark_0 : decode cX4_spark 0 = .ok (.aload_n 0, 1) := by decide +kernel
theorem dX4_spark_1 : decode cX4_spark 1 = .ok (.getfield 14, 3) := by decide +kernel
theorem dX4_spark_4 : decode cX4_spark 4 = .ok (.iload_n 1, 1) := by decide +kernel
theorem dX4_spark_5 : decode cX4_spark 5 = .ok (.iload_n 2, 1) := by decide +kernel
theorem dX4_spark_6 : decode cX4_spark 6 = .ok (.invokevirtual 70, 3) := by decide +kernel
theorem dX4_spark_9 : decode cX4_spark 9 = .ok (.istore 4, 2) := by decide +kernel
theorem dX4_spark_11 : decode cX4_spark 11 = .ok (.iload 4, 2) := by decide +kernel
theorem dX4_spark_13 : decode cX4_spark 13 = .ok (.iconst (-1), 1) := by decide +kernel
theorem dX4_spark_14 : decode cX4_spark 14 = .ok (.if_icmp .eq 13, 3) := by decide +kernel
theorem dX4_spark_17 : decode cX4_spark 17 = .ok (.iload_n 3, 1) := by decide +kernel
theorem dX4_spark_18 : decode cX4_spark 18 = .ok (.ifCond .lt 9, 3) := by decide +kernel
theorem dX4_spark_21 : decode cX4_spark 21 = .ok (.iload_n 3, 1) := by decide +kernel
theorem dX4_spark_22 : decode cX4_spark 22 = .ok (.bipush 8, 2) := by decide +kernel
theorem dX4_spark_24 : decode cX4_spark 24 = .ok (.if_icmp .lt 13, 3) := by decide +kernel
theorem dX4_spark_27 : decode cX4_spark 27 = .ok (.new 74, 3) := by decide +kernel
theorem dX4_spark_30 : decode cX4_spark 30 = .ok (.dup, 1) := by decide +kernel
theorem dX4_spark_31 : decode cX4_spark 31 = .ok (.ldc 125, 2) := by decide +kernel
theorem dX4_spark_33 : decode cX4_spark 33 = .ok (.invokespecial 78, 3) := by decide +kernel
theorem dX4_spark_36 : decode cX4_spark 36 = .ok (.athrow, 1) := by decide +kernel
theorem dX4_spark_37 : decode cX4_spark 37 = .ok (.aload_n 0, 1) := by decide +kernel
theorem dX4_spark_38 : decode cX4_spark 38 = .ok (.getfield 14, 3) := by decide +kernel
theorem dX4_spark_41 : decode cX4_spark 41 = .ok (.iload_n 1, 1) := by decide +kernel
theorem dX4_spark_42 : decode cX4_spark 42 = .ok (.getstatic 127, 3) := by decide +kernel
theorem dX4_spark_45 : decode cX4_spark 45 = .ok (.iload_n 3, 1) := by decide +kernel
theorem dX4_spark_46 : decode cX4_spark 46 = .ok (.iaload, 1) := by decide +kernel
theorem dX4_spark_47 : decode cX4_spark 47 = .ok (.isub, 1) := by decide +kernel
theorem dX4_spark_48 : decode cX4_spark 48 = .ok (.iload_n 2, 1) := by decide +kernel
theorem dX4_spark_49 : decode cX4_spark 49 = .ok (.getstatic 130, 3) := by decide +kernel
theorem dX4_spark_52 : decode cX4_spark 52 = .ok (.iload_n 3, 1) := by decide +kernel
theorem dX4_spark_53 : decode cX4_spark 53 = .ok (.iaload, 1) := by decide +kernel
theorem dX4_spark_54 : decode cX4_spark 54 = .ok (.isub, 1) := by decide +kernel
theorem dX4_spark_55 : decode cX4_spark 55 = .ok (.invokevirtual 70, 3) := by decide +kernel
theorem dX4_spark_58 : decode cX4_spark 58 = .ok (.istore 5, 2) := by decide +kernel
theorem dX4_spark_60 : decode cX4_spark 60 = .ok (.aload_n 0, 1) := by decide +kernel
theorem dX4_spark_61 : decode cX4_spark 61 = .ok (.getfield 14, 3) := by decide +kernel
theorem dX4_spark_64 : decode cX4_spark 64 = .ok (.iload 4, 2) := by decide +kernel
theorem dX4_spark_66 : decode cX4_spark 66 = .ok (.invokevirtual 81, 3) := by decide +kernel
theorem dX4_spark_69 : decode cX4_spark 69 = .ok (.iconst 1, 1) := by decide +kernel
theorem dX4_spark_70 : decode cX4_spark 70 = .ok (.if_icmp .ne 16, 3) := by decide +kernel
theorem dX4_spark_73 : decode cX4_spark 73 = .ok (.aload_n 0, 1) := by decide +kernel
theorem dX4_spark_74 : decode cX4_spark 74 = .ok (.getfield 14, 3) := by decide +kernel
theorem dX4_spark_77 : decode cX4_spark 77 = .ok (.iload 5, 2) := by decide +kernel
theorem dX4_spark_79 : decode cX4_spark 79 = .ok (.invokevirtual 81, 3) := by decide +kernel
theorem dX4_spark_82 : decode cX4_spark 82 = .ok (.iconst 1, 1) := by decide +kernel
theorem dX4_spark_83 : decode cX4_spark 83 = .ok (.if_icmp .eq 13, 3) := by decide +kernel
theorem dX4_spark_86 : decode cX4_spark 86 = .ok (.new 133, 3) := by decide +kernel
theorem dX4_spark_89 : decode cX4_spark 89 = .ok (.dup, 1) := by decide +kernel
theorem dX4_spark_90 : decode cX4_spark 90 = .ok (.ldc 135, 2) := by decide +kernel
theorem dX4_spark_92 : decode cX4_spark 92 = .ok (.invokespecial 137, 3) := by decide +kernel
theorem dX4_spark_95 : decode cX4_spark 95 = .ok (.athrow, 1) := by decide +kernel
theorem dX4_spark_96 : decode cX4_spark 96 = .ok (.aload_n 0, 1) := by decide +kernel
theorem dX4_spark_97 : decode cX4_spark 97 = .ok (.getfield 14, 3) := by decide +kernel
theorem dX4_spark_100 : decode cX4_spark 100 = .ok (.iload 4, 2) := by decide +kernel
theorem dX4_spark_102 : decode cX4_spark 102 = .ok (.iconst 2, 1) := by decide +kernel
theorem dX4_spark_103 : decode cX4_spark 103 = .ok (.invokevirtual 85, 3) := by decide +kernel
theorem dX4_spark_106 : decode cX4_spark 106 = .ok (.aload_n 0, 1) := by decide +kernel
theorem dX4_spark_107 : decode cX4_spark 107 = .ok (.getfield 14, 3) := by decide +kernel
theorem dX4_spark_110 : decode cX4_spark 110 = .ok (.iload 5, 2) := by decide +kernel
theorem dX4_spark_112 : decode cX4_spark 112 = .ok (.iconst 3, 1) := by decide +kernel
theorem dX4_spark_113 : decode cX4_spark 113 = .ok (.invokevirtual 85, 3) := by decide +kernel
theorem dX4_spark_116 : decode cX4_spark 116 = .ok (.aload_n 0, 1) := by decide +kernel
theorem dX4_spark_117 : decode cX4_spark 117 = .ok (.getfield 14, 3) := by decide +kernel
theorem dX4_spark_120 : decode cX4_spark 120 = .ok (.iconst 2, 1) := by decide +kernel
theorem dX4_spark_121 : decode cX4_spark 121 = .ok (.invokevirtual 138, 3) := by decide +kernel
theorem dX4_spark_124 : decode cX4_spark 124 = .ok (.ireturn, 1) := by decide +kernel
set_option maxRecDepth 20000 in
theorem ggX4_lamp_X0_cell : GoodIn wsX4_lamp wsX0_cell := goodIn_r _ [11, 12, 13, 35, 36, 37, 38] (by decide +kernel) (by decide +kernel)
set_option maxRecDepth 20000 in
theorem gX4_lamp_X0_cell : GoodIn wsX4_lamp (wsV RX4 70 RX0 yX0_cell wsX0_cell) := goodIn_app (goodIn_of _ (by decide +kernel)) ggX4_lamp_X0_cell
set_option maxRecDepth 20000 in
theorem ggX4_lamp_X1_many : GoodIn wsX4_lamp wsX1_many := goodIn_r _ [18, 19, 39, 40, 41, 42, 43] (by decide +kernel) (by decide +kernel)
set_option maxRecDepth 20000 in
theorem gX4_lamp_X1_many : GoodIn wsX4_lamp (wsV RX4 141 RX1 yX1_many wsX1_many) := goodIn_app (goodIn_of _ (by decide +kernel)) ggX4_lamp_X1_many
set_option maxRecDepth 20000 in
theorem ggX4_lamp_X1_add : GoodIn wsX4_lamp wsX1_add := goodIn_r _ [23, 19, 24, 25, 26, 27, 39, 40, 41, 42, 43] (by decide +kernel) (by decide +kernel)
set_option maxRecDepth 20000 in
theorem gX4_lamp_X1_add : GoodIn wsX4_lamp (wsV RX4 145 RX1 yX1_add wsX1_add) := goodIn_app (goodIn_of _ (by decide +kernel)) ggX4_lamp_X1_add
theorem dX4_lamp_0 : decode cX4_lamp 0 = .ok (.aload_n 0, 1) := by decide +kernel
theorem dX4_lamp_1 : decode cX4_lamp 1 = .ok (.getfield 14, 3) := by decide +kernel
theorem dX4_lamp_4 : decode cX4_lamp 4 = .ok (.iload_n 1, 1) := by decide +kernel
theorem dX4_lamp_5 : decode cX4_lamp 5 = .ok (.iload_n 2, 1) := by decide +kernel
theorem dX4_lamp_6 : decode cX4_lamp 6 = .ok (.invokevirtual 70, 3) := by decide +kernel
theorem dX4_lamp_9 : decode cX4_lamp 9 = .ok (.iconst (-1), 1) := by decide +kernel
theorem dX4_lamp_10 : decode cX4_lamp 10 = .ok (.if_icmp .ne 13, 3) := by decide +kernel
theorem dX4_lamp_13 : decode cX4_lamp 13 = .ok (.new 74, 3) := by decide +kernel
theorem dX4_lamp_16 : decode cX4_lamp 16 = .ok (.dup, 1) := by decide +kernel
theorem dX4_lamp_17 : decode cX4_lamp 17 = .ok (.ldc 76, 2) := by decide +kernel
theorem dX4_lamp_19 : decode cX4_lamp 19 = .ok (.invokespecial 78, 3) := by decide +kernel
theorem dX4_lamp_22 : decode cX4_lamp 22 = .ok (.athrow, 1) := by decide +kernel
theorem dX4_lamp_23 : decode cX4_lamp 23 = .ok (.aload_n 0, 1) := by decide +kernel
theorem dX4_lamp_24 : decode cX4_lamp 24 = .ok (.getfield 31, 3) := by decide +kernel
theorem dX4_lamp_27 : decode cX4_lamp 27 = .ok (.invokevirtual 141, 3) := by decide +kernel
theorem dX4_lamp_30 : decode cX4_lamp 30 = .ok (.iconst 5, 1) := by decide +kernel
theorem dX4_lamp_31 : decode cX4_lamp 31 = .ok (.if_icmp .lt 13, 3) := by decide +kernel
theorem dX4_lamp_34 : decode cX4_lamp 34 = .ok (.new 133, 3) := by decide +kernel
theorem dX4_lamp_37 : decode cX4_lamp 37 = .ok (.dup, 1) := by decide +kernel
theorem dX4_lamp_38 : decode cX4_lamp 38 = .ok (.ldc 143, 2) := by decide +kernel
theorem dX4_lamp_40 : decode cX4_lamp 40 = .ok (.invokespecial 137, 3) := by decide +kernel
theorem dX4_lamp_43 : decode cX4_lamp 43 = .ok (.athrow, 1) := by decide +kernel
theorem dX4_lamp_44 : decode cX4_lamp 44 = .ok (.aload_n 0, 1) := by decide +kernel
theorem dX4_lamp_45 : decode cX4_lamp 45 = .ok (.getfield 31, 3) := by decide +kernel
theorem dX4_lamp_48 : decode cX4_lamp 48 = .ok (.iload_n 1, 1) := by decide +kernel
theorem dX4_lamp_49 : decode cX4_lamp 49 = .ok (.iload_n 2, 1) := by decide +kernel
theorem dX4_lamp_50 : decode cX4_lamp 50 = .ok (.invokevirtual 145, 3) := by decide +kernel
theorem dX4_lamp_53 : decode cX4_lamp 53 = .ok (.ireturn, 1) := by decide +kernel
set_option maxRecDepth 20000 in
theorem ggX4_pass_X0_step : GoodIn wsX4_pass wsX0_step := goodIn_r _ [11, 12, 13, 14, 15, 16, 10, 17, 18, 19, 20, 21, 22, 23, 24, 25, 26, 27, 28, 29, 30, 31, 32, 33, 34, 35, 36, 37, 38, 39, 40, 41, 42, 43, 44, 45, 46, 74, 75, 76, 77] (by decide +kernel) (by decide +kernel)
set_option maxRecDepth 20000 in
theorem gX4_pass_X0_step : GoodIn wsX4_pass (wsV RX4 150 RX0 yX0_step wsX0_step) := goodIn_app (goodIn_of _ (by decide +kernel)) ggX4_pass_X0_step
set_option maxRecDepth 20000 in
theorem ggX4_pass_X1_light : GoodIn wsX4_pass wsX1_light := goodIn_r _ [51, 52, 53, 54, 55, 56, 57, 50, 58, 59, 60, 61, 25, 26, 10, 27, 19, 18, 62, 29, 30, 31, 12, 78, 79, 80, 81, 82, 74, 75, 76, 77] (by decide +kernel) (by decide +kernel)
set_option maxRecDepth 20000 in
theorem gX4_pass_X1_light : GoodIn wsX4_pass (wsV RX4 153 RX1 yX1_light wsX1_light) := goodIn_app (goodIn_of _ (by decide +kernel)) ggX4_pass_X1_light
set_option maxRecDepth 20000 in
theorem ggX4_pass_X0_many : GoodIn wsX4_pass wsX0_many := goodIn_r _ [66, 40, 41, 42, 10, 43, 19, 18, 28, 29, 30, 31, 12, 74, 75, 76, 77] (by decide +kernel) (by decide +kernel)
set_option maxRecDepth 20000 in
theorem gX4_pass_X0_many : GoodIn wsX4_pass (wsV RX4 138 RX0 yX0_many wsX0_many) := goodIn_app (goodIn_of _ (by decide +kernel)) ggX4_pass_X0_many
theorem dX4_pass_0 : decode cX4_pass 0 = .ok (.iload_n 1, 1) := by decide +kernel
theorem dX4_pass_1 : decode cX4_pass 1 = .ok (.iconst 1, 1) := by decide +kernel
theorem dX4_pass_2 : decode cX4_pass 2 = .ok (.if_icmp .lt 9, 3) := by decide +kernel
theorem dX4_pass_5 : decode cX4_pass 5 = .ok (.iload_n 1, 1) := by decide +kernel
theorem dX4_pass_6 : decode cX4_pass 6 = .ok (.bipush 100, 2) := by decide +kernel
theorem dX4_pass_8 : decode cX4_pass 8 = .ok (.if_icmp .le 13, 3) := by decide +kernel
theorem dX4_pass_11 : decode cX4_pass 11 = .ok (.new 54, 3) := by decide +kernel
theorem dX4_pass_14 : decode cX4_pass 14 = .ok (.dup, 1) := by decide +kernel
theorem dX4_pass_15 : decode cX4_pass 15 = .ok (.ldc 148, 2) := by decide +kernel
theorem dX4_pass_17 : decode cX4_pass 17 = .ok (.invokespecial 58, 3) := by decide +kernel
theorem dX4_pass_20 : decode cX4_pass 20 = .ok (.athrow, 1) := by decide +kernel
theorem dX4_pass_21 : decode cX4_pass 21 = .ok (.iconst 0, 1) := by decide +kernel
theorem dX4_pass_22 : decode cX4_pass 22 = .ok (.istore_n 2, 1) := by decide +kernel
theorem dX4_pass_23 : decode cX4_pass 23 = .ok (.iconst 0, 1) := by decide +kernel
theorem dX4_pass_24 : decode cX4_pass 24 = .ok (.istore_n 3, 1) := by decide +kernel
theorem dX4_pass_25 : decode cX4_pass 25 = .ok (.iload_n 3, 1) := by decide +kernel
theorem dX4_pass_26 : decode cX4_pass 26 = .ok (.iload_n 1, 1) := by decide +kernel
theorem dX4_pass_27 : decode cX4_pass 27 = .ok (.if_icmp .ge 61, 3) := by decide +kernel
theorem dX4_pass_30 : decode cX4_pass 30 = .ok (.aload_n 0, 1) := by decide +kernel
theorem dX4_pass_31 : decode cX4_pass 31 = .ok (.getfield 14, 3) := by decide +kernel
theorem dX4_pass_34 : decode cX4_pass 34 = .ok (.invokevirtual 150, 3) := by decide +kernel
theorem dX4_pass_37 : decode cX4_pass 37 = .ok (.aload_n 0, 1) := by decide +kernel
theorem dX4_pass_38 : decode cX4_pass 38 = .ok (.dup, 1) := by decide +kernel
theorem dX4_pass_39 : decode cX4_pass 39 = .ok (.getfield 42, 3) := by decide +kernel
theorem dX4_pass_42 : decode cX4_pass 42 = .ok (.iconst 1, 1) := by decide +kernel
theorem dX4_pass_43 : decode cX4_pass 43 = .ok (.iadd, 1) := by decide +kernel
theorem dX4_pass_44 : decode cX4_pass 44 = .ok (.putfield 42, 3) := by decide +kernel
theorem dX4_pass_47 : decode cX4_pass 47 = .ok (.aload_n 0, 1) := by decide +kernel
theorem dX4_pass_48 : decode cX4_pass 48 = .ok (.getfield 31, 3) := by decide +kernel
theorem dX4_pass_51 : decode cX4_pass 51 = .ok (.aload_n 0, 1) := by decide +kernel
theorem dX4_pass_52 : decode cX4_pass 52 = .ok (.getfield 14, 3) := by decide +kernel
theorem dX4_pass_55 : decode cX4_pass 55 = .ok (.aload_n 0, 1) := by decide +kernel
theorem dX4_pass_56 : decode cX4_pass 56 = .ok (.getfield 42, 3) := by decide +kernel
theorem dX4_pass_59 : decode cX4_pass 59 = .ok (.invokevirtual 153, 3) := by decide +kernel
theorem dX4_pass_62 : decode cX4_pass 62 = .ok (.aload_n 0, 1) := by decide +kernel
theorem dX4_pass_63 : decode cX4_pass 63 = .ok (.getfield 14, 3) := by decide +kernel
theorem dX4_pass_66 : decode cX4_pass 66 = .ok (.iconst 2, 1) := by decide +kernel
theorem dX4_pass_67 : decode cX4_pass 67 = .ok (.invokevirtual 138, 3) := by decide +kernel
theorem dX4_pass_70 : decode cX4_pass 70 = .ok (.istore_n 2, 1) := by decide +kernel
theorem dX4_pass_71 : decode cX4_pass 71 = .ok (.aload_n 0, 1) := by decide +kernel
theorem dX4_pass_72 : decode cX4_pass 72 = .ok (.dup, 1) := by decide +kernel
theorem dX4_pass_73 : decode cX4_pass 73 = .ok (.getfield 46, 3) := by decide +kernel
theorem dX4_pass_76 : decode cX4_pass 76 = .ok (.iload_n 2, 1) := by decide +kernel
theorem dX4_pass_77 : decode cX4_pass 77 = .ok (.i2l, 1) := by decide +kernel
theorem dX4_pass_78 : decode cX4_pass 78 = .ok (.ladd, 1) := by decide +kernel
theorem dX4_pass_79 : decode cX4_pass 79 = .ok (.putfield 46, 3) := by decide +kernel
theorem dX4_pass_82 : decode cX4_pass 82 = .ok (.iinc 3 1, 3) := by decide +kernel
theorem dX4_pass_85 : decode cX4_pass 85 = .ok (.goto (-60), 3) := by decide +kernel
theorem dX4_pass_88 : decode cX4_pass 88 = .ok (.iload_n 2, 1) := by decide +kernel
theorem dX4_pass_89 : decode cX4_pass 89 = .ok (.ireturn, 1) := by decide +kernel
set_option maxRecDepth 20000 in
theorem ggX4_told_X0_cell : GoodIn wsX4_told wsX0_cell := goodIn_r _ [9, 10, 11, 67, 68, 69, 70] (by decide +kernel) (by decide +kernel)
set_option maxRecDepth 20000 in
theorem gX4_told_X0_cell : GoodIn wsX4_told (wsV RX4 70 RX0 yX0_cell wsX0_cell) := goodIn_app (goodIn_of _ (by decide +kernel)) ggX4_told_X0_cell
set_option maxRecDepth 20000 in
theorem ggX4_told_X0_kind : GoodIn wsX4_told wsX0_kind := goodIn_r _ [15, 16, 67, 68, 69, 70] (by decide +kernel) (by decide +kernel)
set_option maxRecDepth 20000 in
theorem gX4_told_X0_kind : GoodIn wsX4_told (wsV RX4 81 RX0 yX0_kind wsX0_kind) := goodIn_app (goodIn_of _ (by decide +kernel)) ggX4_told_X0_kind
set_option maxRecDepth 20000 in
theorem ggX4_told_X0_headsAround : GoodIn wsX4_told wsX0_headsAround := goodIn_r _ [20, 21, 22, 23, 8, 24, 25, 6, 7, 9, 10, 11, 26, 13, 14, 15, 16, 67, 68, 69, 70] (by decide +kernel) (by decide +kernel)
set_option maxRecDepth 20000 in
theorem gX4_told_X0_headsAround : GoodIn wsX4_told (wsV RX4 159 RX0 yX0_headsAround wsX0_headsAround) := goodIn_app (goodIn_of _ (by decide +kernel)) ggX4_told_X0_headsAround
set_option maxRecDepth 20000 in
theorem ggX4_told_X0_next : GoodIn wsX4_told wsX0_next := goodIn_r _ [29] (by decide +kernel) (by decide +kernel)
set_option maxRecDepth 20000 in
theorem gX4_told_X0_next : GoodIn wsX4_told (va_wsS RX4 162 yX0_next wsX0_next) := goodIn_app (goodIn_of _ (by decide +kernel)) ggX4_told_X0_next
set_option maxRecDepth 20000 in
theorem ggX4_told_X3_sizeOfPiece : GoodIn wsX4_told wsX3_sizeOfPiece := goodIn_r _ [34, 35, 36, 37, 33, 38, 39, 40, 41, 42, 43, 44, 45, 46, 47, 48, 49, 50, 51, 52, 53, 54, 6, 7, 8, 9, 10, 11, 55, 13, 14, 15, 16, 71, 72, 73, 67, 68, 69, 70] (by decide +kernel) (by decide +kernel)
set_option maxRecDepth 20000 in
theorem gX4_told_X3_sizeOfPiece : GoodIn wsX4_told (wsV RX4 165 RX3 yX3_sizeOfPiece wsX3_sizeOfPiece) := goodIn_app (goodIn_of _ (by decide +kernel)) ggX4_told_X3_sizeOfPiece
set_option maxRecDepth 20000 in
theorem ggX4_told_X0_wiredAround : GoodIn wsX4_told wsX0_wiredAround := goodIn_r _ [59, 21, 22, 23, 8, 24, 25, 6, 7, 9, 10, 11, 26, 13, 14, 15, 16, 67, 68, 69, 70] (by decide +kernel) (by decide +kernel)
set_option maxRecDepth 20000 in
theorem gX4_told_X0_wiredAround : GoodIn wsX4_told (wsV RX4 169 RX0 yX0_wiredAround wsX0_wiredAround) := goodIn_app (goodIn_of _ (by decide +kernel)) ggX4_told_X0_wiredAround
theorem dX4_told_0 : decode cX4_told 0 = .ok (.aload_n 0, 1) := by decide +kernel
theorem dX4_told_1 : decode cX4_told 1 = .ok (.getfield 14, 3) := by decide +kernel
theorem dX4_told_4 : decode cX4_told 4 = .ok (.iload_n 1, 1) := by decide +kernel
theorem dX4_told_5 : decode cX4_told 5 = .ok (.iload_n 2, 1) := by decide +kernel
theorem dX4_told_6 : decode cX4_told 6 = .ok (.invokevirtual 70, 3) := by decide +kernel
theorem dX4_told_9 : decode cX4_told 9 = .ok (.istore 4, 2) := by decide +kernel
theorem dX4_told_11 : decode cX4_told 11 = .ok (.iload 4, 2) := by decide +kernel
theorem dX4_told_13 : decode cX4_told 13 = .ok (.iconst (-1), 1) := by decide +kernel
theorem dX4_told_14 : decode cX4_told 14 = .ok (.if_icmp .eq 12, 3) := by decide +kernel
theorem dX4_told_17 : decode cX4_told 17 = .ok (.iload_n 3, 1) := by decide +kernel
theorem dX4_told_18 : decode cX4_told 18 = .ok (.ifCond .lt 8, 3) := by decide +kernel
theorem dX4_told_21 : decode cX4_told 21 = .ok (.iload_n 3, 1) := by decide +kernel
theorem dX4_told_22 : decode cX4_told 22 = .ok (.iconst 5, 1) := by decide +kernel
theorem dX4_told_23 : decode cX4_told 23 = .ok (.if_icmp .lt 13, 3) := by decide +kernel
theorem dX4_told_26 : decode cX4_told 26 = .ok (.new 74, 3) := by decide +kernel
theorem dX4_told_29 : decode cX4_told 29 = .ok (.dup, 1) := by decide +kernel
theorem dX4_told_30 : decode cX4_told 30 = .ok (.ldc 157, 2) := by decide +kernel
theorem dX4_told_32 : decode cX4_told 32 = .ok (.invokespecial 78, 3) := by decide +kernel
theorem dX4_told_35 : decode cX4_told 35 = .ok (.athrow, 1) := by decide +kernel
theorem dX4_told_36 : decode cX4_told 36 = .ok (.iload_n 3, 1) := by decide +kernel
theorem dX4_told_37 : decode cX4_told 37 = .ok (.tableswitch 87 0 3 #[31, 41, 51, 73], 31) := by decide +kernel
theorem dX4_told_68 : decode cX4_told 68 = .ok (.aload_n 0, 1) := by decide +kernel
theorem dX4_told_69 : decode cX4_told 69 = .ok (.getfield 14, 3) := by decide +kernel
theorem dX4_told_72 : decode cX4_told 72 = .ok (.iload 4, 2) := by decide +kernel
theorem dX4_told_74 : decode cX4_told 74 = .ok (.invokevirtual 81, 3) := by decide +kernel
theorem dX4_told_77 : decode cX4_told 77 = .ok (.ireturn, 1) := by decide +kernel
theorem dX4_told_78 : decode cX4_told 78 = .ok (.aload_n 0, 1) := by decide +kernel
theorem dX4_told_79 : decode cX4_told 79 = .ok (.getfield 14, 3) := by decide +kernel
theorem dX4_told_82 : decode cX4_told 82 = .ok (.iload_n 1, 1) := by decide +kernel
theorem dX4_told_83 : decode cX4_told 83 = .ok (.iload_n 2, 1) := by decide +kernel
theorem dX4_told_84 : decode cX4_told 84 = .ok (.invokevirtual 159, 3) := by decide +kernel
theorem dX4_told_87 : decode cX4_told 87 = .ok (.ireturn, 1) := by decide +kernel
theorem dX4_told_88 : decode cX4_told 88 = .ok (.aload_n 0, 1) := by decide +kernel
theorem dX4_told_89 : decode cX4_told 89 = .ok (.getfield 14, 3) := by decide +kernel
theorem dX4_told_92 : decode cX4_told 92 = .ok (.iload 4, 2) := by decide +kernel
theorem dX4_told_94 : decode cX4_told 94 = .ok (.invokevirtual 81, 3) := by decide +kernel
theorem dX4_told_97 : decode cX4_told 97 = .ok (.aload_n 0, 1) := by decide +kernel
theorem dX4_told_98 : decode cX4_told 98 = .ok (.getfield 14, 3) := by decide +kernel
theorem dX4_told_101 : decode cX4_told 101 = .ok (.iload_n 1, 1) := by decide +kernel
theorem dX4_told_102 : decode cX4_told 102 = .ok (.iload_n 2, 1) := by decide +kernel
theorem dX4_told_103 : decode cX4_told 103 = .ok (.invokevirtual 159, 3) := by decide +kernel
theorem dX4_told_106 : decode cX4_told 106 = .ok (.invokestatic 162, 3) := by decide +kernel
theorem dX4_told_109 : decode cX4_told 109 = .ok (.ireturn, 1) := by decide +kernel
theorem dX4_told_110 : decode cX4_told 110 = .ok (.aload_n 0, 1) := by decide +kernel
theorem dX4_told_111 : decode cX4_told 111 = .ok (.getfield 24, 3) := by decide +kernel
theorem dX4_told_114 : decode cX4_told 114 = .ok (.aload_n 0, 1) := by decide +kernel
theorem dX4_told_115 : decode cX4_told 115 = .ok (.getfield 14, 3) := by decide +kernel
theorem dX4_told_118 : decode cX4_told 118 = .ok (.iload_n 1, 1) := by decide +kernel
theorem dX4_told_119 : decode cX4_told 119 = .ok (.iload_n 2, 1) := by decide +kernel
theorem dX4_told_120 : decode cX4_told 120 = .ok (.invokevirtual 165, 3) := by decide +kernel
theorem dX4_told_123 : decode cX4_told 123 = .ok (.ireturn, 1) := by decide +kernel
theorem dX4_told_124 : decode cX4_told 124 = .ok (.aload_n 0, 1) := by decide +kernel
theorem dX4_told_125 : decode cX4_told 125 = .ok (.getfield 14, 3) := by decide +kernel
theorem dX4_told_128 : decode cX4_told 128 = .ok (.iload_n 1, 1) := by decide +kernel
theorem dX4_told_129 : decode cX4_told 129 = .ok (.iload_n 2, 1) := by decide +kernel
theorem dX4_told_130 : decode cX4_told 130 = .ok (.invokevirtual 169, 3) := by decide +kernel
theorem dX4_told_133 : decode cX4_told 133 = .ok (.ireturn, 1) := by decide +kernel
set_option maxRecDepth 20000 in
theorem ggX4_about_X1_many : GoodIn wsX4_about wsX1_many := goodIn_r _ [8, 9, 41, 42, 43, 44, 45] (by decide +kernel) (by decide +kernel)
set_option maxRecDepth 20000 in
theorem gX4_about_X1_many : GoodIn wsX4_about (wsV RX4 141 RX1 yX1_many wsX1_many) := goodIn_app (goodIn_of _ (by decide +kernel)) ggX4_about_X1_many
set_option maxRecDepth 20000 in
theorem ggX4_about_X1_column : GoodIn wsX4_about wsX1_column := goodIn_r _ [13, 14, 15, 16, 17, 7, 18, 9, 41, 42, 43, 44, 45] (by decide +kernel) (by decide +kernel)
set_option maxRecDepth 20000 in
theorem gX4_about_X1_column : GoodIn wsX4_about (wsV RX4 174 RX1 yX1_column wsX1_column) := goodIn_app (goodIn_of _ (by decide +kernel)) ggX4_about_X1_column
set_option maxRecDepth 20000 in
theorem ggX4_about_X1_row : GoodIn wsX4_about wsX1_row := goodIn_r _ [22, 23, 15, 16, 17, 7, 18, 9, 41, 42, 43, 44, 45] (by decide +kernel) (by decide +kernel)
set_option maxRecDepth 20000 in
theorem gX4_about_X1_row : GoodIn wsX4_about (wsV RX4 177 RX1 yX1_row wsX1_row) := goodIn_app (goodIn_of _ (by decide +kernel)) ggX4_about_X1_row
set_option maxRecDepth 20000 in
theorem ggX4_about_X1_lit : GoodIn wsX4_about wsX1_lit := goodIn_r _ [27, 28, 15, 16, 17, 7, 18, 9, 41, 42, 43, 44, 45] (by decide +kernel) (by decide +kernel)
set_option maxRecDepth 20000 in
theorem gX4_about_X1_lit : GoodIn wsX4_about (wsV RX4 180 RX1 yX1_lit wsX1_lit) := goodIn_app (goodIn_of _ (by decide +kernel)) ggX4_about_X1_lit
set_option maxRecDepth 20000 in
theorem ggX4_about_X1_latest : GoodIn wsX4_about wsX1_latest := goodIn_r _ [32, 33, 15, 16, 17, 7, 18, 9, 41, 42, 43, 44, 45] (by decide +kernel) (by decide +kernel)
set_option maxRecDepth 20000 in
theorem gX4_about_X1_latest : GoodIn wsX4_about (wsV RX4 183 RX1 yX1_latest wsX1_latest) := goodIn_app (goodIn_of _ (by decide +kernel)) ggX4_about_X1_latest
theorem dX4_about_0 : decode cX4_about 0 = .ok (.iload_n 1, 1) := by decide +kernel
theorem dX4_about_1 : decode cX4_about 1 = .ok (.ifCond .lt 23, 3) := by decide +kernel
theorem dX4_about_4 : decode cX4_about 4 = .ok (.iload_n 1, 1) := by decide +kernel
theorem dX4_about_5 : decode cX4_about 5 = .ok (.aload_n 0, 1) := by decide +kernel
theorem dX4_about_6 : decode cX4_about 6 = .ok (.getfield 31, 3) := by decide +kernel
theorem dX4_about_9 : decode cX4_about 9 = .ok (.invokevirtual 141, 3) := by decide +kernel
theorem dX4_about_12 : decode cX4_about 12 = .ok (.if_icmp .ge 12, 3) := by decide +kernel
theorem dX4_about_15 : decode cX4_about 15 = .ok (.iload_n 2, 1) := by decide +kernel
theorem dX4_about_16 : decode cX4_about 16 = .ok (.ifCond .lt 8, 3) := by decide +kernel
theorem dX4_about_19 : decode cX4_about 19 = .ok (.iload_n 2, 1) := by decide +kernel
theorem dX4_about_20 : decode cX4_about 20 = .ok (.iconst 4, 1) := by decide +kernel
theorem dX4_about_21 : decode cX4_about 21 = .ok (.if_icmp .lt 13, 3) := by decide +kernel
theorem dX4_about_24 : decode cX4_about 24 = .ok (.new 74, 3) := by decide +kernel
theorem dX4_about_27 : decode cX4_about 27 = .ok (.dup, 1) := by decide +kernel
theorem dX4_about_28 : decode cX4_about 28 = .ok (.ldc 172, 2) := by decide +kernel
theorem dX4_about_30 : decode cX4_about 30 = .ok (.invokespecial 78, 3) := by decide +kernel
theorem dX4_about_33 : decode cX4_about 33 = .ok (.athrow, 1) := by decide +kernel
theorem dX4_about_34 : decode cX4_about 34 = .ok (.iload_n 2, 1) := by decide +kernel
theorem dX4_about_35 : decode cX4_about 35 = .ok (.tableswitch 52 0 2 #[25, 34, 43], 25) := by decide +kernel
theorem dX4_about_60 : decode cX4_about 60 = .ok (.aload_n 0, 1) := by decide +kernel
theorem dX4_about_61 : decode cX4_about 61 = .ok (.getfield 31, 3) := by decide +kernel
theorem dX4_about_64 : decode cX4_about 64 = .ok (.iload_n 1, 1) := by decide +kernel
theorem dX4_about_65 : decode cX4_about 65 = .ok (.invokevirtual 174, 3) := by decide +kernel
theorem dX4_about_68 : decode cX4_about 68 = .ok (.ireturn, 1) := by decide +kernel
theorem dX4_about_69 : decode cX4_about 69 = .ok (.aload_n 0, 1) := by decide +kernel
theorem dX4_about_70 : decode cX4_about 70 = .ok (.getfield 31, 3) := by decide +kernel
theorem dX4_about_73 : decode cX4_about 73 = .ok (.iload_n 1, 1) := by decide +kernel
theorem dX4_about_74 : decode cX4_about 74 = .ok (.invokevirtual 177, 3) := by decide +kernel
theorem dX4_about_77 : decode cX4_about 77 = .ok (.ireturn, 1) := by decide +kernel
theorem dX4_about_78 : decode cX4_about 78 = .ok (.aload_n 0, 1) := by decide +kernel
theorem dX4_about_79 : decode cX4_about 79 = .ok (.getfield 31, 3) := by decide +kernel
theorem dX4_about_82 : decode cX4_about 82 = .ok (.iload_n 1, 1) := by decide +kernel
theorem dX4_about_83 : decode cX4_about 83 = .ok (.invokevirtual 180, 3) := by decide +kernel
theorem dX4_about_86 : decode cX4_about 86 = .ok (.ireturn, 1) := by decide +kernel
theorem dX4_about_87 : decode cX4_about 87 = .ok (.aload_n 0, 1) := by decide +kernel
theorem dX4_about_88 : decode cX4_about 88 = .ok (.getfield 31, 3) := by decide +kernel
theorem dX4_about_91 : decode cX4_about 91 = .ok (.iload_n 1, 1) := by decide +kernel
theorem dX4_about_92 : decode cX4_about 92 = .ok (.invokevirtual 183, 3) := by decide +kernel
theorem dX4_about_95 : decode cX4_about 95 = .ok (.ireturn, 1) := by decide +kernel
set_option maxRecDepth 20000 in
theorem ggX4_count_X0_columns : GoodIn wsX4_count wsX0_columns := goodIn_r _ [11, 12, 88, 89, 90, 91] (by decide +kernel) (by decide +kernel)
set_option maxRecDepth 20000 in
theorem gX4_count_X0_columns : GoodIn wsX4_count (wsV RX4 188 RX0 yX0_columns wsX0_columns) := goodIn_app (goodIn_of _ (by decide +kernel)) ggX4_count_X0_columns
set_option maxRecDepth 20000 in
theorem ggX4_count_X0_rows : GoodIn wsX4_count wsX0_rows := goodIn_r _ [16, 17, 88, 89, 90, 91] (by decide +kernel) (by decide +kernel)
set_option maxRecDepth 20000 in
theorem gX4_count_X0_rows : GoodIn wsX4_count (wsV RX4 191 RX0 yX0_rows wsX0_rows) := goodIn_app (goodIn_of _ (by decide +kernel)) ggX4_count_X0_rows
set_option maxRecDepth 20000 in
theorem ggX4_count_X0_many : GoodIn wsX4_count wsX0_many := goodIn_r _ [21, 22, 23, 24, 10, 25, 12, 17, 26, 27, 28, 29, 30, 88, 89, 90, 91] (by decide +kernel) (by decide +kernel)
set_option maxRecDepth 20000 in
theorem gX4_count_X0_many : GoodIn wsX4_count (wsV RX4 138 RX0 yX0_many wsX0_many) := goodIn_app (goodIn_of _ (by decide +kernel)) ggX4_count_X0_many
set_option maxRecDepth 20000 in
theorem ggX4_count_X3_pieces : GoodIn wsX4_count wsX3_pieces := goodIn_r _ [35, 36, 37, 38, 34, 39, 40, 41, 42, 43, 44, 45, 14, 15, 10, 16, 17, 46, 8, 9, 11, 12, 47, 48, 49, 50, 51, 52, 53, 54, 55, 56, 57, 58, 59, 60, 61, 27, 28, 29, 30, 92, 93, 94, 88, 89, 90, 91] (by decide +kernel) (by decide +kernel)
set_option maxRecDepth 20000 in
theorem gX4_count_X3_pieces : GoodIn wsX4_count (wsV RX4 194 RX3 yX3_pieces wsX3_pieces) := goodIn_app (goodIn_of _ (by decide +kernel)) ggX4_count_X3_pieces
set_option maxRecDepth 20000 in
theorem ggX4_count_X3_sizeOfLongest : GoodIn wsX4_count wsX3_sizeOfLongest := goodIn_r _ [65, 66, 67, 68, 69, 36, 37, 38, 34, 39, 40, 41, 42, 43, 44, 45, 14, 15, 10, 16, 17, 46, 8, 9, 11, 12, 47, 48, 49, 50, 51, 52, 53, 54, 55, 56, 57, 58, 59, 60, 61, 27, 28, 29, 30, 92, 93, 94, 88, 89, 90, 91] (by decide +kernel) (by decide +kernel)
set_option maxRecDepth 20000 in
theorem gX4_count_X3_sizeOfLongest : GoodIn wsX4_count (wsV RX4 198 RX3 yX3_sizeOfLongest wsX3_sizeOfLongest) := goodIn_app (goodIn_of _ (by decide +kernel)) ggX4_count_X3_sizeOfLongest
set_option maxRecDepth 20000 in
theorem ggX4_count_X1_many : GoodIn wsX4_count wsX1_many := goodIn_r _ [74, 75, 95, 96, 97, 98, 99] (by decide +kernel) (by decide +kernel)
set_option maxRecDepth 20000 in
theorem gX4_count_X1_many : GoodIn wsX4_count (wsV RX4 141 RX1 yX1_many wsX1_many) := goodIn_app (goodIn_of _ (by decide +kernel)) ggX4_count_X1_many
set_option maxRecDepth 20000 in
theorem ggX4_count_X1_litInAll : GoodIn wsX4_count wsX1_litInAll := goodIn_r _ [79, 75, 80, 95, 96, 97, 98, 99] (by decide +kernel) (by decide +kernel)
set_option maxRecDepth 20000 in
theorem gX4_count_X1_litInAll : GoodIn wsX4_count (wsV RX4 201 RX1 yX1_litInAll wsX1_litInAll) := goodIn_app (goodIn_of _ (by decide +kernel)) ggX4_count_X1_litInAll
theorem dX4_count_0 : decode cX4_count 0 = .ok (.iload_n 1, 1) := by decide +kernel
theorem dX4_count_1 : decode cX4_count 1 = .ok (.ifCond .lt 9, 3) := by decide +kernel
theorem dX4_count_4 : decode cX4_count 4 = .ok (.iload_n 1, 1) := by decide +kernel
theorem dX4_count_5 : decode cX4_count 5 = .ok (.bipush 10, 2) := by decide +kernel
theorem dX4_count_7 : decode cX4_count 7 = .ok (.if_icmp .lt 13, 3) := by decide +kernel
theorem dX4_count_10 : decode cX4_count 10 = .ok (.new 74, 3) := by decide +kernel
theorem dX4_count_13 : decode cX4_count 13 = .ok (.dup, 1) := by decide +kernel
theorem dX4_count_14 : decode cX4_count 14 = .ok (.ldc 186, 2) := by decide +kernel
theorem dX4_count_16 : decode cX4_count 16 = .ok (.invokespecial 78, 3) := by decide +kernel
theorem dX4_count_19 : decode cX4_count 19 = .ok (.athrow, 1) := by decide +kernel
theorem dX4_count_20 : decode cX4_count 20 = .ok (.iload_n 1, 1) := by decide +kernel
theorem dX4_count_21 : decode cX4_count 21 = .ok (.tableswitch 131 0 8 #[51, 56, 64, 72, 81, 90, 99, 111, 123], 51) := by decide +kernel
theorem dX4_count_72 : decode cX4_count 72 = .ok (.aload_n 0, 1) := by decide +kernel
theorem dX4_count_73 : decode cX4_count 73 = .ok (.getfield 42, 3) := by decide +kernel
theorem dX4_count_76 : decode cX4_count 76 = .ok (.ireturn, 1) := by decide +kernel
theorem dX4_count_77 : decode cX4_count 77 = .ok (.aload_n 0, 1) := by decide +kernel
theorem dX4_count_78 : decode cX4_count 78 = .ok (.getfield 14, 3) := by decide +kernel
theorem dX4_count_81 : decode cX4_count 81 = .ok (.invokevirtual 188, 3) := by decide +kernel
theorem dX4_count_84 : decode cX4_count 84 = .ok (.ireturn, 1) := by decide +kernel
theorem dX4_count_85 : decode cX4_count 85 = .ok (.aload_n 0, 1) := by decide +kernel
theorem dX4_count_86 : decode cX4_count 86 = .ok (.getfield 14, 3) := by decide +kernel
theorem dX4_count_89 : decode cX4_count 89 = .ok (.invokevirtual 191, 3) := by decide +kernel
theorem dX4_count_92 : decode cX4_count 92 = .ok (.ireturn, 1) := by decide +kernel
theorem dX4_count_93 : decode cX4_count 93 = .ok (.aload_n 0, 1) := by decide +kernel
theorem dX4_count_94 : decode cX4_count 94 = .ok (.getfield 14, 3) := by decide +kernel
theorem dX4_count_97 : decode cX4_count 97 = .ok (.iconst 1, 1) := by decide +kernel
theorem dX4_count_98 : decode cX4_count 98 = .ok (.invokevirtual 138, 3) := by decide +kernel
theorem dX4_count_101 : decode cX4_count 101 = .ok (.ireturn, 1) := by decide +kernel
theorem dX4_count_102 : decode cX4_count 102 = .ok (.aload_n 0, 1) := by decide +kernel
theorem dX4_count_103 : decode cX4_count 103 = .ok (.getfield 14, 3) := by decide +kernel
theorem dX4_count_106 : decode cX4_count 106 = .ok (.iconst 2, 1) := by decide +kernel
theorem dX4_count_107 : decode cX4_count 107 = .ok (.invokevirtual 138, 3) := by decide +kernel
theorem dX4_count_110 : decode cX4_count 110 = .ok (.ireturn, 1) := by decide +kernel
theorem dX4_count_111 : decode cX4_count 111 = .ok (.aload_n 0, 1) := by decide +kernel
theorem dX4_count_112 : decode cX4_count 112 = .ok (.getfield 14, 3) := by decide +kernel
theorem dX4_count_115 : decode cX4_count 115 = .ok (.iconst 3, 1) := by decide +kernel
theorem dX4_count_116 : decode cX4_count 116 = .ok (.invokevirtual 138, 3) := by decide +kernel
theorem dX4_count_119 : decode cX4_count 119 = .ok (.ireturn, 1) := by decide +kernel
theorem dX4_count_120 : decode cX4_count 120 = .ok (.aload_n 0, 1) := by decide +kernel
theorem dX4_count_121 : decode cX4_count 121 = .ok (.getfield 24, 3) := by decide +kernel
theorem dX4_count_124 : decode cX4_count 124 = .ok (.aload_n 0, 1) := by decide +kernel
theorem dX4_count_125 : decode cX4_count 125 = .ok (.getfield 14, 3) := by decide +kernel
theorem dX4_count_128 : decode cX4_count 128 = .ok (.invokevirtual 194, 3) := by decide +kernel
theorem dX4_count_131 : decode cX4_count 131 = .ok (.ireturn, 1) := by decide +kernel
theorem dX4_count_132 : decode cX4_count 132 = .ok (.aload_n 0, 1) := by decide +kernel
theorem dX4_count_133 : decode cX4_count 133 = .ok (.getfield 24, 3) := by decide +kernel
theorem dX4_count_136 : decode cX4_count 136 = .ok (.aload_n 0, 1) := by decide +kernel
theorem dX4_count_137 : decode cX4_count 137 = .ok (.getfield 14, 3) := by decide +kernel
theorem dX4_count_140 : decode cX4_count 140 = .ok (.invokevirtual 198, 3) := by decide +kernel
theorem dX4_count_143 : decode cX4_count 143 = .ok (.ireturn, 1) := by decide +kernel
theorem dX4_count_144 : decode cX4_count 144 = .ok (.aload_n 0, 1) := by decide +kernel
theorem dX4_count_145 : decode cX4_count 145 = .ok (.getfield 31, 3) := by decide +kernel
theorem dX4_count_148 : decode cX4_count 148 = .ok (.invokevirtual 141, 3) := by decide +kernel
theorem dX4_count_151 : decode cX4_count 151 = .ok (.ireturn, 1) := by decide +kernel
theorem dX4_count_152 : decode cX4_count 152 = .ok (.aload_n 0, 1) := by decide +kernel
theorem dX4_count_153 : decode cX4_count 153 = .ok (.getfield 31, 3) := by decide +kernel
theorem dX4_count_156 : decode cX4_count 156 = .ok (.invokevirtual 201, 3) := by decide +kernel
theorem dX4_count_159 : decode cX4_count 159 = .ok (.ireturn, 1) := by decide +kernel
set_option maxRecDepth 20000 in
theorem ggX4_way_X0_cell : GoodIn wsX4_way wsX0_cell := goodIn_r _ [9, 10, 11, 49, 50, 51, 52] (by decide +kernel) (by decide +kernel)
set_option maxRecDepth 20000 in
theorem gX4_way_X0_cell : GoodIn wsX4_way (wsV RX4 70 RX0 yX0_cell wsX0_cell) := goodIn_app (goodIn_of _ (by decide +kernel)) ggX4_way_X0_cell
set_option maxRecDepth 20000 in
theorem ggX4_way_X3_far : GoodIn wsX4_way wsX3_far := goodIn_r _ [16, 17, 18, 19, 20, 15, 21, 22, 23, 24, 25, 26, 27, 28, 29, 30, 31, 32, 33, 34, 35, 36, 6, 7, 8, 9, 10, 11, 37, 38, 39, 40, 41, 53, 54, 55, 49, 50, 51, 52] (by decide +kernel) (by decide +kernel)
set_option maxRecDepth 20000 in
theorem gX4_way_X3_far : GoodIn wsX4_way (wsV RX4 204 RX3 yX3_far wsX3_far) := goodIn_app (goodIn_of _ (by decide +kernel)) ggX4_way_X3_far
theorem dX4_way_0 : decode cX4_way 0 = .ok (.aload_n 0, 1) := by decide +kernel
theorem dX4_way_1 : decode cX4_way 1 = .ok (.getfield 14, 3) := by decide +kernel
theorem dX4_way_4 : decode cX4_way 4 = .ok (.iload_n 1, 1) := by decide +kernel
theorem dX4_way_5 : decode cX4_way 5 = .ok (.iload_n 2, 1) := by decide +kernel
theorem dX4_way_6 : decode cX4_way 6 = .ok (.invokevirtual 70, 3) := by decide +kernel
theorem dX4_way_9 : decode cX4_way 9 = .ok (.istore 5, 2) := by decide +kernel
theorem dX4_way_11 : decode cX4_way 11 = .ok (.aload_n 0, 1) := by decide +kernel
theorem dX4_way_12 : decode cX4_way 12 = .ok (.getfield 14, 3) := by decide +kernel
theorem dX4_way_15 : decode cX4_way 15 = .ok (.iload_n 3, 1) := by decide +kernel
theorem dX4_way_16 : decode cX4_way 16 = .ok (.iload 4, 2) := by decide +kernel
theorem dX4_way_18 : decode cX4_way 18 = .ok (.invokevirtual 70, 3) := by decide +kernel
theorem dX4_way_21 : decode cX4_way 21 = .ok (.istore 6, 2) := by decide +kernel
theorem dX4_way_23 : decode cX4_way 23 = .ok (.iload 5, 2) := by decide +kernel
theorem dX4_way_25 : decode cX4_way 25 = .ok (.iconst (-1), 1) := by decide +kernel
theorem dX4_way_26 : decode cX4_way 26 = .ok (.if_icmp .eq 9, 3) := by decide +kernel
theorem dX4_way_29 : decode cX4_way 29 = .ok (.iload 6, 2) := by decide +kernel
theorem dX4_way_31 : decode cX4_way 31 = .ok (.iconst (-1), 1) := by decide +kernel
theorem dX4_way_32 : decode cX4_way 32 = .ok (.if_icmp .ne 13, 3) := by decide +kernel
theorem dX4_way_35 : decode cX4_way 35 = .ok (.new 74, 3) := by decide +kernel
theorem dX4_way_38 : decode cX4_way 38 = .ok (.dup, 1) := by decide +kernel
theorem dX4_way_39 : decode cX4_way 39 = .ok (.ldc 76, 2) := by decide +kernel
theorem dX4_way_41 : decode cX4_way 41 = .ok (.invokespecial 78, 3) := by decide +kernel
theorem dX4_way_44 : decode cX4_way 44 = .ok (.athrow, 1) := by decide +kernel
theorem dX4_way_45 : decode cX4_way 45 = .ok (.aload_n 0, 1) := by decide +kernel
theorem dX4_way_46 : decode cX4_way 46 = .ok (.getfield 24, 3) := by decide +kernel
theorem dX4_way_49 : decode cX4_way 49 = .ok (.aload_n 0, 1) := by decide +kernel
theorem dX4_way_50 : decode cX4_way 50 = .ok (.getfield 14, 3) := by decide +kernel
theorem dX4_way_53 : decode cX4_way 53 = .ok (.iload_n 1, 1) := by decide +kernel
theorem dX4_way_54 : decode cX4_way 54 = .ok (.iload_n 2, 1) := by decide +kernel
theorem dX4_way_55 : decode cX4_way 55 = .ok (.iload 6, 2) := by decide +kernel
theorem dX4_way_57 : decode cX4_way 57 = .ok (.invokevirtual 204, 3) := by decide +kernel
theorem dX4_way_60 : decode cX4_way 60 = .ok (.ireturn, 1) := by decide +kernel
set_option maxRecDepth 20000 in
theorem ggX4_period_X0_copy : GoodIn wsX4_period wsX0_copy := goodIn_r _ [10, 11, 12, 13, 14, 15, 16, 17, 79, 80, 81, 82] (by decide +kernel) (by decide +kernel)
set_option maxRecDepth 20000 in
theorem gX4_period_X0_copy : GoodIn wsX4_period (wsV RX4 210 RX0 yX0_copy wsX0_copy) := goodIn_app (goodIn_of _ (by decide +kernel)) ggX4_period_X0_copy
set_option maxRecDepth 20000 in
theorem ggX4_period_X2_keep : GoodIn wsX4_period wsX2_keep := goodIn_r _ [22, 23, 24, 25, 21, 26, 27, 28, 29, 9, 30, 13, 83, 79, 80, 81, 82] (by decide +kernel) (by decide +kernel)
set_option maxRecDepth 20000 in
theorem gX4_period_X2_keep : GoodIn wsX4_period (wsV RX4 214 RX2 yX2_keep wsX2_keep) := goodIn_app (goodIn_of _ (by decide +kernel)) ggX4_period_X2_keep
set_option maxRecDepth 20000 in
theorem ggX4_period_X0_step : GoodIn wsX4_period wsX0_step := goodIn_r _ [34, 13, 35, 36, 37, 38, 9, 39, 12, 11, 40, 41, 42, 43, 44, 45, 46, 47, 48, 28, 29, 30, 49, 50, 51, 52, 53, 54, 55, 56, 57, 58, 59, 60, 61, 62, 63, 79, 80, 81, 82] (by decide +kernel) (by decide +kernel)
set_option maxRecDepth 20000 in
theorem gX4_period_X0_step : GoodIn wsX4_period (wsV RX4 150 RX0 yX0_step wsX0_step) := goodIn_app (goodIn_of _ (by decide +kernel)) ggX4_period_X0_step
set_option maxRecDepth 20000 in
theorem ggX4_period_X2_firstLike : GoodIn wsX4_period wsX2_firstLike := goodIn_r _ [67, 68, 69, 70, 21, 71, 23, 83] (by decide +kernel) (by decide +kernel)
set_option maxRecDepth 20000 in
theorem gX4_period_X2_firstLike : GoodIn wsX4_period (wsV RX4 218 RX2 yX2_firstLike wsX2_firstLike) := goodIn_app (goodIn_of _ (by decide +kernel)) ggX4_period_X2_firstLike
theorem dX4_period_0 : decode cX4_period 0 = .ok (.iload_n 1, 1) := by decide +kernel
theorem dX4_period_1 : decode cX4_period 1 = .ok (.ifCond .lt 8, 3) := by decide +kernel
theorem dX4_period_4 : decode cX4_period 4 = .ok (.iload_n 1, 1) := by decide +kernel
theorem dX4_period_5 : decode cX4_period 5 = .ok (.iconst 1, 1) := by decide +kernel
theorem dX4_period_6 : decode cX4_period 6 = .ok (.if_icmp .le 13, 3) := by decide +kernel
theorem dX4_period_9 : decode cX4_period 9 = .ok (.new 74, 3) := by decide +kernel
theorem dX4_period_12 : decode cX4_period 12 = .ok (.dup, 1) := by decide +kernel
theorem dX4_period_13 : decode cX4_period 13 = .ok (.ldc 208, 2) := by decide +kernel
theorem dX4_period_15 : decode cX4_period 15 = .ok (.invokespecial 78, 3) := by decide +kernel
theorem dX4_period_18 : decode cX4_period 18 = .ok (.athrow, 1) := by decide +kernel
theorem dX4_period_19 : decode cX4_period 19 = .ok (.aload_n 0, 1) := by decide +kernel
theorem dX4_period_20 : decode cX4_period 20 = .ok (.getfield 18, 3) := by decide +kernel
theorem dX4_period_23 : decode cX4_period 23 = .ok (.aload_n 0, 1) := by decide +kernel
theorem dX4_period_24 : decode cX4_period 24 = .ok (.getfield 14, 3) := by decide +kernel
theorem dX4_period_27 : decode cX4_period 27 = .ok (.invokevirtual 210, 3) := by decide +kernel
theorem dX4_period_30 : decode cX4_period 30 = .ok (.aload_n 0, 1) := by decide +kernel
theorem dX4_period_31 : decode cX4_period 31 = .ok (.getfield 38, 3) := by decide +kernel
theorem dX4_period_34 : decode cX4_period 34 = .ok (.iconst 0, 1) := by decide +kernel
theorem dX4_period_35 : decode cX4_period 35 = .ok (.aload_n 0, 1) := by decide +kernel
theorem dX4_period_36 : decode cX4_period 36 = .ok (.getfield 18, 3) := by decide +kernel
theorem dX4_period_39 : decode cX4_period 39 = .ok (.invokevirtual 214, 3) := by decide +kernel
theorem dX4_period_42 : decode cX4_period 42 = .ok (.iconst 1, 1) := by decide +kernel
theorem dX4_period_43 : decode cX4_period 43 = .ok (.istore_n 2, 1) := by decide +kernel
theorem dX4_period_44 : decode cX4_period 44 = .ok (.iload_n 2, 1) := by decide +kernel
theorem dX4_period_45 : decode cX4_period 45 = .ok (.bipush 90, 2) := by decide +kernel
theorem dX4_period_47 : decode cX4_period 47 = .ok (.if_icmp .gt 54, 3) := by decide +kernel
theorem dX4_period_50 : decode cX4_period 50 = .ok (.aload_n 0, 1) := by decide +kernel
theorem dX4_period_51 : decode cX4_period 51 = .ok (.getfield 18, 3) := by decide +kernel
theorem dX4_period_54 : decode cX4_period 54 = .ok (.invokevirtual 150, 3) := by decide +kernel
theorem dX4_period_57 : decode cX4_period 57 = .ok (.aload_n 0, 1) := by decide +kernel
theorem dX4_period_58 : decode cX4_period 58 = .ok (.getfield 38, 3) := by decide +kernel
theorem dX4_period_61 : decode cX4_period 61 = .ok (.iload_n 2, 1) := by decide +kernel
theorem dX4_period_62 : decode cX4_period 62 = .ok (.aload_n 0, 1) := by decide +kernel
theorem dX4_period_63 : decode cX4_period 63 = .ok (.getfield 18, 3) := by decide +kernel
theorem dX4_period_66 : decode cX4_period 66 = .ok (.invokevirtual 214, 3) := by decide +kernel
theorem dX4_period_69 : decode cX4_period 69 = .ok (.aload_n 0, 1) := by decide +kernel
theorem dX4_period_70 : decode cX4_period 70 = .ok (.getfield 38, 3) := by decide +kernel
theorem dX4_period_73 : decode cX4_period 73 = .ok (.iload_n 2, 1) := by decide +kernel
theorem dX4_period_74 : decode cX4_period 74 = .ok (.invokevirtual 218, 3) := by decide +kernel
theorem dX4_period_77 : decode cX4_period 77 = .ok (.istore_n 3, 1) := by decide +kernel
theorem dX4_period_78 : decode cX4_period 78 = .ok (.iload_n 3, 1) := by decide +kernel
theorem dX4_period_79 : decode cX4_period 79 = .ok (.iload_n 2, 1) := by decide +kernel
theorem dX4_period_80 : decode cX4_period 80 = .ok (.if_icmp .ge 15, 3) := by decide +kernel
theorem dX4_period_83 : decode cX4_period 83 = .ok (.iload_n 1, 1) := by decide +kernel
theorem dX4_period_84 : decode cX4_period 84 = .ok (.ifCond .ne 7, 3) := by decide +kernel
theorem dX4_period_87 : decode cX4_period 87 = .ok (.iload_n 3, 1) := by decide +kernel
theorem dX4_period_88 : decode cX4_period 88 = .ok (.goto 6, 3) := by decide +kernel
theorem dX4_period_91 : decode cX4_period 91 = .ok (.iload_n 2, 1) := by decide +kernel
theorem dX4_period_92 : decode cX4_period 92 = .ok (.iload_n 3, 1) := by decide +kernel
theorem dX4_period_93 : decode cX4_period 93 = .ok (.isub, 1) := by decide +kernel
theorem dX4_period_94 : decode cX4_period 94 = .ok (.ireturn, 1) := by decide +kernel
theorem dX4_period_95 : decode cX4_period 95 = .ok (.iinc 2 1, 3) := by decide +kernel
theorem dX4_period_98 : decode cX4_period 98 = .ok (.goto (-54), 3) := by decide +kernel
theorem dX4_period_101 : decode cX4_period 101 = .ok (.iconst (-1), 1) := by decide +kernel
theorem dX4_period_102 : decode cX4_period 102 = .ok (.ireturn, 1) := by decide +kernel
set_option maxRecDepth 20000 in
theorem ggX4_until_X0_cell : GoodIn wsX4_until wsX0_cell := goodIn_r _ [9, 10, 11, 62, 63, 64, 65] (by decide +kernel) (by decide +kernel)
set_option maxRecDepth 20000 in
theorem gX4_until_X0_cell : GoodIn wsX4_until (wsV RX4 70 RX0 yX0_cell wsX0_cell) := goodIn_app (goodIn_of _ (by decide +kernel)) ggX4_until_X0_cell
set_option maxRecDepth 20000 in
theorem ggX4_until_X0_copy : GoodIn wsX4_until wsX0_copy := goodIn_r _ [15, 10, 11, 16, 17, 18, 19, 20, 62, 63, 64, 65] (by decide +kernel) (by decide +kernel)
set_option maxRecDepth 20000 in
theorem gX4_until_X0_copy : GoodIn wsX4_until (wsV RX4 210 RX0 yX0_copy wsX0_copy) := goodIn_app (goodIn_of _ (by decide +kernel)) ggX4_until_X0_copy
set_option maxRecDepth 20000 in
theorem ggX4_until_X0_kind : GoodIn wsX4_until wsX0_kind := goodIn_r _ [24, 16, 62, 63, 64, 65] (by decide +kernel) (by decide +kernel)
set_option maxRecDepth 20000 in
theorem gX4_until_X0_kind : GoodIn wsX4_until (wsV RX4 81 RX0 yX0_kind wsX0_kind) := goodIn_app (goodIn_of _ (by decide +kernel)) ggX4_until_X0_kind
set_option maxRecDepth 20000 in
theorem ggX4_until_X0_step : GoodIn wsX4_until wsX0_step := goodIn_r _ [28, 16, 29, 30, 31, 32, 8, 33, 11, 10, 34, 35, 36, 37, 38, 6, 7, 9, 39, 22, 23, 24, 40, 41, 42, 43, 44, 45, 46, 47, 48, 49, 50, 51, 52, 53, 54, 62, 63, 64, 65] (by decide +kernel) (by decide +kernel)
set_option maxRecDepth 20000 in
theorem gX4_until_X0_step : GoodIn wsX4_until (wsV RX4 150 RX0 yX0_step wsX0_step) := goodIn_app (goodIn_of _ (by decide +kernel)) ggX4_until_X0_step
theorem dX4_until_0 : decode cX4_until 0 = .ok (.aload_n 0, 1) := by decide +kernel
theorem dX4_until_1 : decode cX4_until 1 = .ok (.getfield 14, 3) := by decide +kernel
theorem dX4_until_4 : decode cX4_until 4 = .ok (.iload_n 1, 1) := by decide +kernel
theorem dX4_until_5 : decode cX4_until 5 = .ok (.iload_n 2, 1) := by decide +kernel
theorem dX4_until_6 : decode cX4_until 6 = .ok (.invokevirtual 70, 3) := by decide +kernel
theorem dX4_until_9 : decode cX4_until 9 = .ok (.istore_n 3, 1) := by decide +kernel
theorem dX4_until_10 : decode cX4_until 10 = .ok (.iload_n 3, 1) := by decide +kernel
theorem dX4_until_11 : decode cX4_until 11 = .ok (.iconst (-1), 1) := by decide +kernel
theorem dX4_until_12 : decode cX4_until 12 = .ok (.if_icmp .ne 13, 3) := by decide +kernel
theorem dX4_until_15 : decode cX4_until 15 = .ok (.new 74, 3) := by decide +kernel
theorem dX4_until_18 : decode cX4_until 18 = .ok (.dup, 1) := by decide +kernel
theorem dX4_until_19 : decode cX4_until 19 = .ok (.ldc 76, 2) := by decide +kernel
theorem dX4_until_21 : decode cX4_until 21 = .ok (.invokespecial 78, 3) := by decide +kernel
theorem dX4_until_24 : decode cX4_until 24 = .ok (.athrow, 1) := by decide +kernel
theorem dX4_until_25 : decode cX4_until 25 = .ok (.aload_n 0, 1) := by decide +kernel
theorem dX4_until_26 : decode cX4_until 26 = .ok (.getfield 18, 3) := by decide +kernel
theorem dX4_until_29 : decode cX4_until 29 = .ok (.aload_n 0, 1) := by decide +kernel
theorem dX4_until_30 : decode cX4_until 30 = .ok (.getfield 14, 3) := by decide +kernel
theorem dX4_until_33 : decode cX4_until 33 = .ok (.invokevirtual 210, 3) := by decide +kernel
theorem dX4_until_36 : decode cX4_until 36 = .ok (.iconst 0, 1) := by decide +kernel
theorem dX4_until_37 : decode cX4_until 37 = .ok (.istore 4, 2) := by decide +kernel
theorem dX4_until_39 : decode cX4_until 39 = .ok (.iload 4, 2) := by decide +kernel
theorem dX4_until_41 : decode cX4_until 41 = .ok (.sipush 150, 3) := by decide +kernel
theorem dX4_until_44 : decode cX4_until 44 = .ok (.if_icmp .gt 31, 3) := by decide +kernel
theorem dX4_until_47 : decode cX4_until 47 = .ok (.aload_n 0, 1) := by decide +kernel
theorem dX4_until_48 : decode cX4_until 48 = .ok (.getfield 18, 3) := by decide +kernel
theorem dX4_until_51 : decode cX4_until 51 = .ok (.iload_n 3, 1) := by decide +kernel
theorem dX4_until_52 : decode cX4_until 52 = .ok (.invokevirtual 81, 3) := by decide +kernel
theorem dX4_until_55 : decode cX4_until 55 = .ok (.iconst 2, 1) := by decide +kernel
theorem dX4_until_56 : decode cX4_until 56 = .ok (.if_icmp .ne 6, 3) := by decide +kernel
theorem dX4_until_59 : decode cX4_until 59 = .ok (.iload 4, 2) := by decide +kernel
theorem dX4_until_61 : decode cX4_until 61 = .ok (.ireturn, 1) := by decide +kernel
theorem dX4_until_62 : decode cX4_until 62 = .ok (.aload_n 0, 1) := by decide +kernel
theorem dX4_until_63 : decode cX4_until 63 = .ok (.getfield 18, 3) := by decide +kernel
theorem dX4_until_66 : decode cX4_until 66 = .ok (.invokevirtual 150, 3) := by decide +kernel
theorem dX4_until_69 : decode cX4_until 69 = .ok (.iinc 4 1, 3) := by decide +kernel
theorem dX4_until_72 : decode cX4_until 72 = .ok (.goto (-33), 3) := by decide +kernel
theorem dX4_until_75 : decode cX4_until 75 = .ok (.iconst (-1), 1) := by decide +kernel
theorem dX4_until_76 : decode cX4_until 76 = .ok (.ireturn, 1) := by decide +kernel
set_option maxRecDepth 20000 in
theorem ggX4_foresee_X1_litInAll : GoodIn wsX4_foresee wsX1_litInAll := goodIn_r _ [12, 13, 14, 86, 87, 88, 89, 90] (by decide +kernel) (by decide +kernel)
set_option maxRecDepth 20000 in
theorem gX4_foresee_X1_litInAll : GoodIn wsX4_foresee (wsV RX4 201 RX1 yX1_litInAll wsX1_litInAll) := goodIn_app (goodIn_of _ (by decide +kernel)) ggX4_foresee_X1_litInAll
set_option maxRecDepth 20000 in
theorem ggX4_foresee_X0_copy : GoodIn wsX4_foresee wsX0_copy := goodIn_r _ [19, 20, 21, 22, 23, 24, 25, 26, 91, 92, 93, 94] (by decide +kernel) (by decide +kernel)
set_option maxRecDepth 20000 in
theorem gX4_foresee_X0_copy : GoodIn wsX4_foresee (wsV RX4 210 RX0 yX0_copy wsX0_copy) := goodIn_app (goodIn_of _ (by decide +kernel)) ggX4_foresee_X0_copy
set_option maxRecDepth 20000 in
theorem ggX4_foresee_X0_step : GoodIn wsX4_foresee wsX0_step := goodIn_r _ [30, 22, 31, 32, 33, 34, 18, 35, 21, 20, 36, 37, 38, 39, 40, 41, 42, 43, 44, 45, 46, 47, 48, 49, 50, 51, 52, 53, 54, 55, 56, 57, 58, 59, 60, 61, 62, 91, 92, 93, 94] (by decide +kernel) (by decide +kernel)
set_option maxRecDepth 20000 in
theorem gX4_foresee_X0_step : GoodIn wsX4_foresee (wsV RX4 150 RX0 yX0_step wsX0_step) := goodIn_app (goodIn_of _ (by decide +kernel)) ggX4_foresee_X0_step
set_option maxRecDepth 20000 in
theorem ggX4_foresee_X1_alight : GoodIn wsX4_foresee wsX1_alight := goodIn_r _ [66, 13, 67, 68, 69, 11, 70, 71, 72, 73, 41, 42, 18, 43, 20, 21, 74, 45, 46, 47, 22, 86, 87, 88, 89, 90, 91, 92, 93, 94] (by decide +kernel) (by decide +kernel)
set_option maxRecDepth 20000 in
theorem gX4_foresee_X1_alight : GoodIn wsX4_foresee (wsV RX4 225 RX1 yX1_alight wsX1_alight) := goodIn_app (goodIn_of _ (by decide +kernel)) ggX4_foresee_X1_alight
set_option maxRecDepth 20000 in
theorem ggX4_foresee_X0_many : GoodIn wsX4_foresee wsX0_many := goodIn_r _ [78, 56, 57, 58, 18, 59, 20, 21, 44, 45, 46, 47, 22, 91, 92, 93, 94] (by decide +kernel) (by decide +kernel)
set_option maxRecDepth 20000 in
theorem gX4_foresee_X0_many : GoodIn wsX4_foresee (wsV RX4 138 RX0 yX0_many wsX0_many) := goodIn_app (goodIn_of _ (by decide +kernel)) ggX4_foresee_X0_many
theorem dX4_foresee_0 : decode cX4_foresee 0 = .ok (.iload_n 1, 1) := by decide +kernel
theorem dX4_foresee_1 : decode cX4_foresee 1 = .ok (.iconst 1, 1) := by decide +kernel
theorem dX4_foresee_2 : decode cX4_foresee 2 = .ok (.if_icmp .lt 9, 3) := by decide +kernel
theorem dX4_foresee_5 : decode cX4_foresee 5 = .ok (.iload_n 1, 1) := by decide +kernel
theorem dX4_foresee_6 : decode cX4_foresee 6 = .ok (.bipush 100, 2) := by decide +kernel
theorem dX4_foresee_8 : decode cX4_foresee 8 = .ok (.if_icmp .le 13, 3) := by decide +kernel
theorem dX4_foresee_11 : decode cX4_foresee 11 = .ok (.new 54, 3) := by decide +kernel
theorem dX4_foresee_14 : decode cX4_foresee 14 = .ok (.dup, 1) := by decide +kernel
theorem dX4_foresee_15 : decode cX4_foresee 15 = .ok (.ldc 221, 2) := by decide +kernel
theorem dX4_foresee_17 : decode cX4_foresee 17 = .ok (.invokespecial 58, 3) := by decide +kernel
theorem dX4_foresee_20 : decode cX4_foresee 20 = .ok (.athrow, 1) := by decide +kernel
theorem dX4_foresee_21 : decode cX4_foresee 21 = .ok (.iload_n 2, 1) := by decide +kernel
theorem dX4_foresee_22 : decode cX4_foresee 22 = .ok (.iconst 3, 1) := by decide +kernel
theorem dX4_foresee_23 : decode cX4_foresee 23 = .ok (.if_icmp .lt 12, 3) := by decide +kernel
theorem dX4_foresee_26 : decode cX4_foresee 26 = .ok (.iload_n 2, 1) := by decide +kernel
theorem dX4_foresee_27 : decode cX4_foresee 27 = .ok (.iconst 5, 1) := by decide +kernel
theorem dX4_foresee_28 : decode cX4_foresee 28 = .ok (.if_icmp .gt 7, 3) := by decide +kernel
theorem dX4_foresee_31 : decode cX4_foresee 31 = .ok (.iconst 1, 1) := by decide +kernel
theorem dX4_foresee_32 : decode cX4_foresee 32 = .ok (.goto 4, 3) := by decide +kernel
theorem dX4_foresee_35 : decode cX4_foresee 35 = .ok (.iconst 0, 1) := by decide +kernel
theorem dX4_foresee_36 : decode cX4_foresee 36 = .ok (.istore_n 3, 1) := by decide +kernel
theorem dX4_foresee_37 : decode cX4_foresee 37 = .ok (.iload_n 3, 1) := by decide +kernel
theorem dX4_foresee_38 : decode cX4_foresee 38 = .ok (.ifCond .ne 19, 3) := by decide +kernel
theorem dX4_foresee_41 : decode cX4_foresee 41 = .ok (.iload_n 2, 1) := by decide +kernel
theorem dX4_foresee_42 : decode cX4_foresee 42 = .ok (.bipush 9, 2) := by decide +kernel
theorem dX4_foresee_44 : decode cX4_foresee 44 = .ok (.if_icmp .eq 13, 3) := by decide +kernel
theorem dX4_foresee_47 : decode cX4_foresee 47 = .ok (.new 74, 3) := by decide +kernel
theorem dX4_foresee_50 : decode cX4_foresee 50 = .ok (.dup, 1) := by decide +kernel
theorem dX4_foresee_51 : decode cX4_foresee 51 = .ok (.ldc 223, 2) := by decide +kernel
theorem dX4_foresee_53 : decode cX4_foresee 53 = .ok (.invokespecial 78, 3) := by decide +kernel
theorem dX4_foresee_56 : decode cX4_foresee 56 = .ok (.athrow, 1) := by decide +kernel
theorem dX4_foresee_57 : decode cX4_foresee 57 = .ok (.aload_n 0, 1) := by decide +kernel
theorem dX4_foresee_58 : decode cX4_foresee 58 = .ok (.getfield 31, 3) := by decide +kernel
theorem dX4_foresee_61 : decode cX4_foresee 61 = .ok (.invokevirtual 201, 3) := by decide +kernel
theorem dX4_foresee_64 : decode cX4_foresee 64 = .ok (.istore 4, 2) := by decide +kernel
theorem dX4_foresee_66 : decode cX4_foresee 66 = .ok (.aload_n 0, 1) := by decide +kernel
theorem dX4_foresee_67 : decode cX4_foresee 67 = .ok (.getfield 18, 3) := by decide +kernel
theorem dX4_foresee_70 : decode cX4_foresee 70 = .ok (.aload_n 0, 1) := by decide +kernel
theorem dX4_foresee_71 : decode cX4_foresee 71 = .ok (.getfield 14, 3) := by decide +kernel
theorem dX4_foresee_74 : decode cX4_foresee 74 = .ok (.invokevirtual 210, 3) := by decide +kernel
theorem dX4_foresee_77 : decode cX4_foresee 77 = .ok (.iconst 0, 1) := by decide +kernel
theorem dX4_foresee_78 : decode cX4_foresee 78 = .ok (.istore 5, 2) := by decide +kernel
theorem dX4_foresee_80 : decode cX4_foresee 80 = .ok (.iload 5, 2) := by decide +kernel
theorem dX4_foresee_82 : decode cX4_foresee 82 = .ok (.iload_n 1, 1) := by decide +kernel
theorem dX4_foresee_83 : decode cX4_foresee 83 = .ok (.if_icmp .ge 32, 3) := by decide +kernel
theorem dX4_foresee_86 : decode cX4_foresee 86 = .ok (.aload_n 0, 1) := by decide +kernel
theorem dX4_foresee_87 : decode cX4_foresee 87 = .ok (.getfield 18, 3) := by decide +kernel
theorem dX4_foresee_90 : decode cX4_foresee 90 = .ok (.invokevirtual 150, 3) := by decide +kernel
theorem dX4_foresee_93 : decode cX4_foresee 93 = .ok (.iload 4, 2) := by decide +kernel
theorem dX4_foresee_95 : decode cX4_foresee 95 = .ok (.aload_n 0, 1) := by decide +kernel
theorem dX4_foresee_96 : decode cX4_foresee 96 = .ok (.getfield 31, 3) := by decide +kernel
theorem dX4_foresee_99 : decode cX4_foresee 99 = .ok (.aload_n 0, 1) := by decide +kernel
theorem dX4_foresee_100 : decode cX4_foresee 100 = .ok (.getfield 18, 3) := by decide +kernel
theorem dX4_foresee_103 : decode cX4_foresee 103 = .ok (.invokevirtual 225, 3) := by decide +kernel
theorem dX4_foresee_106 : decode cX4_foresee 106 = .ok (.iadd, 1) := by decide +kernel
theorem dX4_foresee_107 : decode cX4_foresee 107 = .ok (.istore 4, 2) := by decide +kernel
theorem dX4_foresee_109 : decode cX4_foresee 109 = .ok (.iinc 5 1, 3) := by decide +kernel
theorem dX4_foresee_112 : decode cX4_foresee 112 = .ok (.goto (-32), 3) := by decide +kernel
theorem dX4_foresee_115 : decode cX4_foresee 115 = .ok (.iload_n 3, 1) := by decide +kernel
theorem dX4_foresee_116 : decode cX4_foresee 116 = .ok (.ifCond .eq 18, 3) := by decide +kernel
theorem dX4_foresee_119 : decode cX4_foresee 119 = .ok (.aload_n 0, 1) := by decide +kernel
theorem dX4_foresee_120 : decode cX4_foresee 120 = .ok (.getfield 18, 3) := by decide +kernel
theorem dX4_foresee_123 : decode cX4_foresee 123 = .ok (.iconst 1, 1) := by decide +kernel
theorem dX4_foresee_124 : decode cX4_foresee 124 = .ok (.iload_n 2, 1) := by decide +kernel
theorem dX4_foresee_125 : decode cX4_foresee 125 = .ok (.iadd, 1) := by decide +kernel
theorem dX4_foresee_126 : decode cX4_foresee 126 = .ok (.iconst 3, 1) := by decide +kernel
theorem dX4_foresee_127 : decode cX4_foresee 127 = .ok (.isub, 1) := by decide +kernel
theorem dX4_foresee_128 : decode cX4_foresee 128 = .ok (.invokevirtual 138, 3) := by decide +kernel
theorem dX4_foresee_131 : decode cX4_foresee 131 = .ok (.goto 5, 3) := by decide +kernel
theorem dX4_foresee_134 : decode cX4_foresee 134 = .ok (.iload 4, 2) := by decide +kernel
theorem dX4_foresee_136 : decode cX4_foresee 136 = .ok (.ireturn, 1) := by decide +kernel
set_option maxRecDepth 20000 in
theorem ggX4_advise_X0_copy : GoodIn wsX4_advise wsX0_copy := goodIn_r _ [9, 10, 11, 12, 13, 14, 15, 16, 75, 76, 77, 78] (by decide +kernel) (by decide +kernel)
set_option maxRecDepth 20000 in
theorem gX4_advise_X0_copy : GoodIn wsX4_advise (wsV RX4 210 RX0 yX0_copy wsX0_copy) := goodIn_app (goodIn_of _ (by decide +kernel)) ggX4_advise_X0_copy
set_option maxRecDepth 20000 in
theorem ggX4_advise_X4_headsOfTrial : GoodIn wsX4_advise wsX4_headsOfTrial := goodIn_r _ [21, 3, 22, 23, 24, 8, 25, 12, 26, 27, 28, 29, 30, 11, 10, 31, 32, 33, 34, 35, 36, 37, 38, 39, 40, 41, 42, 43, 44, 45, 46, 47, 48, 49, 50, 51, 52, 53, 54, 55, 56, 57, 58, 59, 60, 61, 68, 69, 70, 71, 72, 73, 74, 75, 76, 77, 78] (by decide +kernel) (by decide +kernel)
set_option maxRecDepth 20000 in
theorem gX4_advise_X4_headsOfTrial : GoodIn wsX4_advise (wsV RX4 230 RX4 yX4_headsOfTrial wsX4_headsOfTrial) := goodIn_app (goodIn_of _ (by decide +kernel)) ggX4_advise_X4_headsOfTrial
set_option maxRecDepth 20000 in
theorem ggX4_advise_X0_size : GoodIn wsX4_advise wsX0_size := goodIn_r _ [54, 10, 11, 75, 76, 77, 78] (by decide +kernel) (by decide +kernel)
set_option maxRecDepth 20000 in
theorem gX4_advise_X0_size : GoodIn wsX4_advise (wsV RX4 66 RX0 yX0_size wsX0_size) := goodIn_app (goodIn_of _ (by decide +kernel)) ggX4_advise_X0_size
set_option maxRecDepth 20000 in
theorem ggX4_advise_X0_kind : GoodIn wsX4_advise wsX0_kind := goodIn_r _ [42, 12, 75, 76, 77, 78] (by decide +kernel) (by decide +kernel)
set_option maxRecDepth 20000 in
theorem gX4_advise_X0_kind : GoodIn wsX4_advise (wsV RX4 81 RX0 yX0_kind wsX0_kind) := goodIn_app (goodIn_of _ (by decide +kernel)) ggX4_advise_X0_kind
set_option maxRecDepth 20000 in
theorem ggX4_advise_X0_put : GoodIn wsX4_advise wsX0_put := goodIn_r _ [67, 12, 75, 76, 77, 78] (by decide +kernel) (by decide +kernel)
set_option maxRecDepth 20000 in
theorem gX4_advise_X0_put : GoodIn wsX4_advise (wsV RX4 85 RX0 yX0_put wsX0_put) := goodIn_app (goodIn_of _ (by decide +kernel)) ggX4_advise_X0_put
theorem dX4_advise_0 : decode cX4_advise 0 = .ok (.iload_n 1, 1) := by decide +kernel
theorem dX4_advise_1 : decode cX4_advise 1 = .ok (.iconst 1, 1) := by decide +kernel
theorem dX4_advise_2 : decode cX4_advise 2 = .ok (.if_icmp .lt 8, 3) := by decide +kernel
theorem dX4_advise_5 : decode cX4_advise 5 = .ok (.iload_n 1, 1) := by decide +kernel
theorem dX4_advise_6 : decode cX4_advise 6 = .ok (.iconst 4, 1) := by decide +kernel
theorem dX4_advise_7 : decode cX4_advise 7 = .ok (.if_icmp .le 13, 3) := by decide +kernel
theorem dX4_advise_10 : decode cX4_advise 10 = .ok (.new 54, 3) := by decide +kernel
theorem dX4_advise_13 : decode cX4_advise 13 = .ok (.dup, 1) := by decide +kernel
theorem dX4_advise_14 : decode cX4_advise 14 = .ok (.ldc 228, 2) := by decide +kernel
theorem dX4_advise_16 : decode cX4_advise 16 = .ok (.invokespecial 58, 3) := by decide +kernel
theorem dX4_advise_19 : decode cX4_advise 19 = .ok (.athrow, 1) := by decide +kernel
theorem dX4_advise_20 : decode cX4_advise 20 = .ok (.iconst (-1), 1) := by decide +kernel
theorem dX4_advise_21 : decode cX4_advise 21 = .ok (.istore_n 2, 1) := by decide +kernel
theorem dX4_advise_22 : decode cX4_advise 22 = .ok (.aload_n 0, 1) := by decide +kernel
theorem dX4_advise_23 : decode cX4_advise 23 = .ok (.getfield 18, 3) := by decide +kernel
theorem dX4_advise_26 : decode cX4_advise 26 = .ok (.aload_n 0, 1) := by decide +kernel
theorem dX4_advise_27 : decode cX4_advise 27 = .ok (.getfield 14, 3) := by decide +kernel
theorem dX4_advise_30 : decode cX4_advise 30 = .ok (.invokevirtual 210, 3) := by decide +kernel
theorem dX4_advise_33 : decode cX4_advise 33 = .ok (.aload_n 0, 1) := by decide +kernel
theorem dX4_advise_34 : decode cX4_advise 34 = .ok (.iload_n 1, 1) := by decide +kernel
theorem dX4_advise_35 : decode cX4_advise 35 = .ok (.invokevirtual 230, 3) := by decide +kernel
theorem dX4_advise_38 : decode cX4_advise 38 = .ok (.istore_n 3, 1) := by decide +kernel
theorem dX4_advise_39 : decode cX4_advise 39 = .ok (.iconst 0, 1) := by decide +kernel
theorem dX4_advise_40 : decode cX4_advise 40 = .ok (.istore 4, 2) := by decide +kernel
theorem dX4_advise_42 : decode cX4_advise 42 = .ok (.iload 4, 2) := by decide +kernel
theorem dX4_advise_44 : decode cX4_advise 44 = .ok (.aload_n 0, 1) := by decide +kernel
theorem dX4_advise_45 : decode cX4_advise 45 = .ok (.getfield 14, 3) := by decide +kernel
theorem dX4_advise_48 : decode cX4_advise 48 = .ok (.invokevirtual 66, 3) := by decide +kernel
theorem dX4_advise_51 : decode cX4_advise 51 = .ok (.if_icmp .ge 62, 3) := by decide +kernel
theorem dX4_advise_54 : decode cX4_advise 54 = .ok (.aload_n 0, 1) := by decide +kernel
theorem dX4_advise_55 : decode cX4_advise 55 = .ok (.getfield 14, 3) := by decide +kernel
theorem dX4_advise_58 : decode cX4_advise 58 = .ok (.iload 4, 2) := by decide +kernel
theorem dX4_advise_60 : decode cX4_advise 60 = .ok (.invokevirtual 81, 3) := by decide +kernel
theorem dX4_advise_63 : decode cX4_advise 63 = .ok (.iconst 1, 1) := by decide +kernel
theorem dX4_advise_64 : decode cX4_advise 64 = .ok (.if_icmp .ne 43, 3) := by decide +kernel
theorem dX4_advise_67 : decode cX4_advise 67 = .ok (.aload_n 0, 1) := by decide +kernel
theorem dX4_advise_68 : decode cX4_advise 68 = .ok (.getfield 18, 3) := by decide +kernel
theorem dX4_advise_71 : decode cX4_advise 71 = .ok (.aload_n 0, 1) := by decide +kernel
theorem dX4_advise_72 : decode cX4_advise 72 = .ok (.getfield 14, 3) := by decide +kernel
theorem dX4_advise_75 : decode cX4_advise 75 = .ok (.invokevirtual 210, 3) := by decide +kernel
theorem dX4_advise_78 : decode cX4_advise 78 = .ok (.aload_n 0, 1) := by decide +kernel
theorem dX4_advise_79 : decode cX4_advise 79 = .ok (.getfield 18, 3) := by decide +kernel
theorem dX4_advise_82 : decode cX4_advise 82 = .ok (.iload 4, 2) := by decide +kernel
theorem dX4_advise_84 : decode cX4_advise 84 = .ok (.iconst 0, 1) := by decide +kernel
theorem dX4_advise_85 : decode cX4_advise 85 = .ok (.invokevirtual 85, 3) := by decide +kernel
theorem dX4_advise_88 : decode cX4_advise 88 = .ok (.aload_n 0, 1) := by decide +kernel
theorem dX4_advise_89 : decode cX4_advise 89 = .ok (.iload_n 1, 1) := by decide +kernel
theorem dX4_advise_90 : decode cX4_advise 90 = .ok (.invokevirtual 230, 3) := by decide +kernel
theorem dX4_advise_93 : decode cX4_advise 93 = .ok (.istore 5, 2) := by decide +kernel
theorem dX4_advise_95 : decode cX4_advise 95 = .ok (.iload 5, 2) := by decide +kernel
theorem dX4_advise_97 : decode cX4_advise 97 = .ok (.iload_n 3, 1) := by decide +kernel
theorem dX4_advise_98 : decode cX4_advise 98 = .ok (.if_icmp .ge 9, 3) := by decide +kernel
theorem dX4_advise_101 : decode cX4_advise 101 = .ok (.iload 5, 2) := by decide +kernel
theorem dX4_advise_103 : decode cX4_advise 103 = .ok (.istore_n 3, 1) := by decide +kernel
theorem dX4_advise_104 : decode cX4_advise 104 = .ok (.iload 4, 2) := by decide +kernel
theorem dX4_advise_106 : decode cX4_advise 106 = .ok (.istore_n 2, 1) := by decide +kernel
theorem dX4_advise_107 : decode cX4_advise 107 = .ok (.iinc 4 1, 3) := by decide +kernel
theorem dX4_advise_110 : decode cX4_advise 110 = .ok (.goto (-68), 3) := by decide +kernel
theorem dX4_advise_113 : decode cX4_advise 113 = .ok (.iload_n 2, 1) := by decide +kernel
theorem dX4_advise_114 : decode cX4_advise 114 = .ok (.ireturn, 1) := by decide +kernel
theorem dX4_mean_0 : decode cX4_mean 0 = .ok (.aload_n 0, 1) := by decide +kernel
theorem dX4_mean_1 : decode cX4_mean 1 = .ok (.getfield 42, 3) := by decide +kernel
theorem dX4_mean_4 : decode cX4_mean 4 = .ok (.ifCond .ne 5, 3) := by decide +kernel
theorem dX4_mean_7 : decode cX4_mean 7 = .ok (.dconst 0, 1) := by decide +kernel
theorem dX4_mean_8 : decode cX4_mean 8 = .ok (.dreturn, 1) := by decide +kernel
theorem dX4_mean_9 : decode cX4_mean 9 = .ok (.aload_n 0, 1) := by decide +kernel
theorem dX4_mean_10 : decode cX4_mean 10 = .ok (.getfield 46, 3) := by decide +kernel
theorem dX4_mean_13 : decode cX4_mean 13 = .ok (.l2d, 1) := by decide +kernel
theorem dX4_mean_14 : decode cX4_mean 14 = .ok (.aload_n 0, 1) := by decide +kernel
theorem dX4_mean_15 : decode cX4_mean 15 = .ok (.getfield 42, 3) := by decide +kernel
theorem dX4_mean_18 : decode cX4_mean 18 = .ok (.i2d, 1) := by decide +kernel
theorem dX4_mean_19 : decode cX4_mean 19 = .ok (.ddiv, 1) := by decide +kernel
theorem dX4_mean_20 : decode cX4_mean 20 = .ok (.dreturn, 1) := by decide +kernel
set_option maxRecDepth 20000 in
theorem ggX4_digest_X4_count : GoodIn wsX4_digest wsX4_count := goodIn_ca (goodIn_r _ [10, 11, 12, 13, 3, 14, 4, 15, 16, 17, 18, 19, 20, 21, 22, 23, 24, 25, 26, 27, 28, 29, 30, 31, 32, 33, 34, 35, 36, 37, 38, 39, 40, 41, 42, 43, 44, 45, 46, 47, 48, 49, 50, 51, 52, 53, 54, 55, 56, 57, 58, 59, 60, 61, 62, 63, 64, 65, 66, 67, 68, 69, 70, 71, 72, 73, 74, 75, 76, 77, 78, 79, 80, 81, 82, 83, 84, 85, 86, 87, 88, 142, 143, 144, 145, 146, 147, 148, 149, 150, 151, 152, 153, 154, 155, 156, 157, 158, 159, 160] (by decide +kernel) (by decide +kernel)) (goodIn_sub (fun _ h => List.mem_cons_of_mem _ (List.mem_append_right _ h)) (by decide +kernel))
set_option maxRecDepth 20000 in
theorem gX4_digest_X4_count : GoodIn wsX4_digest (wsV RX4 237 RX4 yX4_count wsX4_count) := goodIn_app (goodIn_of _ (by decide +kernel)) ggX4_digest_X4_count
set_option maxRecDepth 20000 in
theorem ggX4_digest_X0_rows : GoodIn wsX4_digest wsX0_rows := goodIn_r _ [24, 25, 149, 150, 151, 152] (by decide +kernel) (by decide +kernel)
set_option maxRecDepth 20000 in
theorem gX4_digest_X0_rows : GoodIn wsX4_digest (wsV RX4 191 RX0 yX0_rows wsX0_rows) := goodIn_app (goodIn_of _ (by decide +kernel)) ggX4_digest_X0_rows
set_option maxRecDepth 20000 in
theorem ggX4_digest_X0_columns : GoodIn wsX4_digest wsX0_columns := goodIn_r _ [19, 20, 149, 150, 151, 152] (by decide +kernel) (by decide +kernel)
set_option maxRecDepth 20000 in
theorem gX4_digest_X0_columns : GoodIn wsX4_digest (wsV RX4 188 RX0 yX0_columns wsX0_columns) := goodIn_app (goodIn_of _ (by decide +kernel)) ggX4_digest_X0_columns
set_option maxRecDepth 20000 in
theorem ggX4_digest_X4_told : GoodIn wsX4_digest wsX4_told := goodIn_ca (goodIn_r _ [92, 11, 12, 3, 14, 93, 66, 67, 18, 68, 20, 25, 94, 35, 36, 37, 38, 95, 96, 97, 98, 99, 100, 101, 102, 103, 34, 104, 105, 106, 107, 108, 109, 42, 110, 44, 45, 46, 47, 48, 49, 50, 51, 52, 55, 56, 57, 58, 59, 60, 61, 62, 63, 64, 65, 69, 111, 112, 113, 114, 142, 143, 144, 145, 146, 147, 148, 149, 150, 151, 152, 153, 154, 155] (by decide +kernel) (by decide +kernel)) (goodIn_sub (fun _ h => List.mem_cons_of_mem _ (List.mem_append_right _ h)) (by decide +kernel))
set_option maxRecDepth 20000 in
theorem gX4_digest_X4_told : GoodIn wsX4_digest (wsV RX4 240 RX4 yX4_told wsX4_told) := goodIn_app (goodIn_of _ (by decide +kernel)) ggX4_digest_X4_told
set_option maxRecDepth 20000 in
theorem ggX4_digest_X1_many : GoodIn wsX4_digest wsX1_many := goodIn_r _ [82, 83, 156, 157, 158, 159, 160] (by decide +kernel) (by decide +kernel)
set_option maxRecDepth 20000 in
theorem gX4_digest_X1_many : GoodIn wsX4_digest (wsV RX4 141 RX1 yX1_many wsX1_many) := goodIn_app (goodIn_of _ (by decide +kernel)) ggX4_digest_X1_many
set_option maxRecDepth 20000 in
theorem ggX4_digest_X4_about : GoodIn wsX4_digest wsX4_about := goodIn_ca (goodIn_r _ [118, 11, 12, 4, 78, 79, 80, 81, 82, 83, 119, 120, 121, 122, 123, 124, 125, 126, 127, 128, 129, 130, 131, 132, 133, 134, 135, 136, 88, 137, 138, 139, 140, 141, 142, 143, 144, 145, 146, 147, 148, 156, 157, 158, 159, 160] (by decide +kernel) (by decide +kernel)) (goodIn_sub (fun _ h => List.mem_cons_of_mem _ (List.mem_append_right _ h)) (by decide +kernel))
set_option maxRecDepth 20000 in
theorem gX4_digest_X4_about : GoodIn wsX4_digest (wsV RX4 244 RX4 yX4_about wsX4_about) := goodIn_app (goodIn_of _ (by decide +kernel)) ggX4_digest_X4_about
theorem dX4_digest_0 : decode cX4_digest 0 = .ok (.ldc2_w 233, 3) := by decide +kernel
theorem dX4_digest_3 : decode cX4_digest 3 = .ok (.lstore_n 1, 1) := by decide +kernel
theorem dX4_digest_4 : decode cX4_digest 4 = .ok (.iconst 0, 1) := by decide +kernel
theorem dX4_digest_5 : decode cX4_digest 5 = .ok (.istore_n 3, 1) := by decide +kernel
theorem dX4_digest_6 : decode cX4_digest 6 = .ok (.iload_n 3, 1) := by decide +kernel
theorem dX4_digest_7 : decode cX4_digest 7 = .ok (.bipush 10, 2) := by decide +kernel
theorem dX4_digest_9 : decode cX4_digest 9 = .ok (.if_icmp .ge 22, 3) := by decide +kernel
theorem dX4_digest_12 : decode cX4_digest 12 = .ok (.lload_n 1, 1) := by decide +kernel
theorem dX4_digest_13 : decode cX4_digest 13 = .ok (.ldc2_w 235, 3) := by decide +kernel
theorem dX4_digest_16 : decode cX4_digest 16 = .ok (.lmul, 1) := by decide +kernel
theorem dX4_digest_17 : decode cX4_digest 17 = .ok (.aload_n 0, 1) := by decide +kernel
theorem dX4_digest_18 : decode cX4_digest 18 = .ok (.iload_n 3, 1) := by decide +kernel
theorem dX4_digest_19 : decode cX4_digest 19 = .ok (.invokevirtual 237, 3) := by decide +kernel
theorem dX4_digest_22 : decode cX4_digest 22 = .ok (.i2l, 1) := by decide +kernel
theorem dX4_digest_23 : decode cX4_digest 23 = .ok (.ladd, 1) := by decide +kernel
theorem dX4_digest_24 : decode cX4_digest 24 = .ok (.lstore_n 1, 1) := by decide +kernel
theorem dX4_digest_25 : decode cX4_digest 25 = .ok (.iinc 3 1, 3) := by decide +kernel
theorem dX4_digest_28 : decode cX4_digest 28 = .ok (.goto (-22), 3) := by decide +kernel
theorem dX4_digest_31 : decode cX4_digest 31 = .ok (.iconst 0, 1) := by decide +kernel
theorem dX4_digest_32 : decode cX4_digest 32 = .ok (.istore_n 3, 1) := by decide +kernel
theorem dX4_digest_33 : decode cX4_digest 33 = .ok (.iload_n 3, 1) := by decide +kernel
theorem dX4_digest_34 : decode cX4_digest 34 = .ok (.aload_n 0, 1) := by decide +kernel
theorem dX4_digest_35 : decode cX4_digest 35 = .ok (.getfield 14, 3) := by decide +kernel
theorem dX4_digest_38 : decode cX4_digest 38 = .ok (.invokevirtual 191, 3) := by decide +kernel
theorem dX4_digest_41 : decode cX4_digest 41 = .ok (.if_icmp .ge 62, 3) := by decide +kernel
theorem dX4_digest_44 : decode cX4_digest 44 = .ok (.iconst 0, 1) := by decide +kernel
theorem dX4_digest_45 : decode cX4_digest 45 = .ok (.istore 4, 2) := by decide +kernel
theorem dX4_digest_47 : decode cX4_digest 47 = .ok (.iload 4, 2) := by decide +kernel
theorem dX4_digest_49 : decode cX4_digest 49 = .ok (.aload_n 0, 1) := by decide +kernel
theorem dX4_digest_50 : decode cX4_digest 50 = .ok (.getfield 14, 3) := by decide +kernel
theorem dX4_digest_53 : decode cX4_digest 53 = .ok (.invokevirtual 188, 3) := by decide +kernel
theorem dX4_digest_56 : decode cX4_digest 56 = .ok (.if_icmp .ge 41, 3) := by decide +kernel
theorem dX4_digest_59 : decode cX4_digest 59 = .ok (.iconst 0, 1) := by decide +kernel
theorem dX4_digest_60 : decode cX4_digest 60 = .ok (.istore 5, 2) := by decide +kernel
theorem dX4_digest_62 : decode cX4_digest 62 = .ok (.iload 5, 2) := by decide +kernel
theorem dX4_digest_64 : decode cX4_digest 64 = .ok (.iconst 5, 1) := by decide +kernel
theorem dX4_digest_65 : decode cX4_digest 65 = .ok (.if_icmp .ge 26, 3) := by decide +kernel
theorem dX4_digest_68 : decode cX4_digest 68 = .ok (.lload_n 1, 1) := by decide +kernel
theorem dX4_digest_69 : decode cX4_digest 69 = .ok (.ldc2_w 235, 3) := by decide +kernel
theorem dX4_digest_72 : decode cX4_digest 72 = .ok (.lmul, 1) := by decide +kernel
theorem dX4_digest_73 : decode cX4_digest 73 = .ok (.aload_n 0, 1) := by decide +kernel
theorem dX4_digest_74 : decode cX4_digest 74 = .ok (.iload 4, 2) := by decide +kernel
theorem dX4_digest_76 : decode cX4_digest 76 = .ok (.iload_n 3, 1) := by decide +kernel
theorem dX4_digest_77 : decode cX4_digest 77 = .ok (.iload 5, 2) := by decide +kernel
theorem dX4_digest_79 : decode cX4_digest 79 = .ok (.invokevirtual 240, 3) := by decide +kernel
theorem dX4_digest_82 : decode cX4_digest 82 = .ok (.i2l, 1) := by decide +kernel
theorem dX4_digest_83 : decode cX4_digest 83 = .ok (.ladd, 1) := by decide +kernel
theorem dX4_digest_84 : decode cX4_digest 84 = .ok (.lstore_n 1, 1) := by decide +kernel
theorem dX4_digest_85 : decode cX4_digest 85 = .ok (.iinc 5 1, 3) := by decide +kernel
theorem dX4_digest_88 : decode cX4_digest 88 = .ok (.goto (-26), 3) := by decide +kernel
theorem dX4_digest_91 : decode cX4_digest 91 = .ok (.iinc 4 1, 3) := by decide +kernel
theorem dX4_digest_94 : decode cX4_digest 94 = .ok (.goto (-47), 3) := by decide +kernel
theorem dX4_digest_97 : decode cX4_digest 97 = .ok (.iinc 3 1, 3) := by decide +kernel
theorem dX4_digest_100 : decode cX4_digest 100 = .ok (.goto (-67), 3) := by decide +kernel
theorem dX4_digest_103 : decode cX4_digest 103 = .ok (.iconst 0, 1) := by decide +kernel
theorem dX4_digest_104 : decode cX4_digest 104 = .ok (.istore_n 3, 1) := by decide +kernel
theorem dX4_digest_105 : decode cX4_digest 105 = .ok (.iload_n 3, 1) := by decide +kernel
theorem dX4_digest_106 : decode cX4_digest 106 = .ok (.aload_n 0, 1) := by decide +kernel
theorem dX4_digest_107 : decode cX4_digest 107 = .ok (.getfield 31, 3) := by decide +kernel
theorem dX4_digest_110 : decode cX4_digest 110 = .ok (.invokevirtual 141, 3) := by decide +kernel
theorem dX4_digest_113 : decode cX4_digest 113 = .ok (.if_icmp .ge 39, 3) := by decide +kernel
theorem dX4_digest_116 : decode cX4_digest 116 = .ok (.iconst 0, 1) := by decide +kernel
theorem dX4_digest_117 : decode cX4_digest 117 = .ok (.istore 4, 2) := by decide +kernel
theorem dX4_digest_119 : decode cX4_digest 119 = .ok (.iload 4, 2) := by decide +kernel
theorem dX4_digest_121 : decode cX4_digest 121 = .ok (.iconst 4, 1) := by decide +kernel
theorem dX4_digest_122 : decode cX4_digest 122 = .ok (.if_icmp .ge 24, 3) := by decide +kernel
theorem dX4_digest_125 : decode cX4_digest 125 = .ok (.lload_n 1, 1) := by decide +kernel
theorem dX4_digest_126 : decode cX4_digest 126 = .ok (.ldc2_w 235, 3) := by decide +kernel
theorem dX4_digest_129 : decode cX4_digest 129 = .ok (.lmul, 1) := by decide +kernel
theorem dX4_digest_130 : decode cX4_digest 130 = .ok (.aload_n 0, 1) := by decide +kernel
theorem dX4_digest_131 : decode cX4_digest 131 = .ok (.iload_n 3, 1) := by decide +kernel
theorem dX4_digest_132 : decode cX4_digest 132 = .ok (.iload 4, 2) := by decide +kernel
theorem dX4_digest_134 : decode cX4_digest 134 = .ok (.invokevirtual 244, 3) := by decide +kernel
theorem dX4_digest_137 : decode cX4_digest 137 = .ok (.i2l, 1) := by decide +kernel
theorem dX4_digest_138 : decode cX4_digest 138 = .ok (.ladd, 1) := by decide +kernel
theorem dX4_digest_139 : decode cX4_digest 139 = .ok (.lstore_n 1, 1) := by decide +kernel
theorem dX4_digest_140 : decode cX4_digest 140 = .ok (.iinc 4 1, 3) := by decide +kernel
theorem dX4_digest_143 : decode cX4_digest 143 = .ok (.goto (-24), 3) := by decide +kernel
theorem dX4_digest_146 : decode cX4_digest 146 = .ok (.iinc 3 1, 3) := by decide +kernel
theorem dX4_digest_149 : decode cX4_digest 149 = .ok (.goto (-44), 3) := by decide +kernel
theorem dX4_digest_152 : decode cX4_digest 152 = .ok (.lload_n 1, 1) := by decide +kernel
theorem dX4_digest_153 : decode cX4_digest 153 = .ok (.ldc2_w 235, 3) := by decide +kernel
theorem dX4_digest_156 : decode cX4_digest 156 = .ok (.lmul, 1) := by decide +kernel
theorem dX4_digest_157 : decode cX4_digest 157 = .ok (.aload_n 0, 1) := by decide +kernel
theorem dX4_digest_158 : decode cX4_digest 158 = .ok (.getfield 46, 3) := by decide +kernel
theorem dX4_digest_161 : decode cX4_digest 161 = .ok (.ladd, 1) := by decide +kernel
theorem dX4_digest_162 : decode cX4_digest 162 = .ok (.lreturn, 1) := by decide +kernel
theorem dX4_isSide_0 : decode cX4_isSide 0 = .ok (.iload_n 0, 1) := by decide +kernel
theorem dX4_isSide_1 : decode cX4_isSide 1 = .ok (.iconst 3, 1) := by decide +kernel
theorem dX4_isSide_2 : decode cX4_isSide 2 = .ok (.if_icmp .lt 13, 3) := by decide +kernel
theorem dX4_isSide_5 : decode cX4_isSide 5 = .ok (.iload_n 0, 1) := by decide +kernel
theorem dX4_isSide_6 : decode cX4_isSide 6 = .ok (.bipush 10, 2) := by decide +kernel
theorem dX4_isSide_8 : decode cX4_isSide 8 = .ok (.if_icmp .gt 7, 3) := by decide +kernel
theorem dX4_isSide_11 : decode cX4_isSide 11 = .ok (.iconst 1, 1) := by decide +kernel
theorem dX4_isSide_12 : decode cX4_isSide 12 = .ok (.goto 4, 3) := by decide +kernel
theorem dX4_isSide_15 : decode cX4_isSide 15 = .ok (.iconst 0, 1) := by decide +kernel
theorem dX4_isSide_16 : decode cX4_isSide 16 = .ok (.ireturn, 1) := by decide +kernel
theorem dX4_turned_0 : decode cX4_turned 0 = .ok (.iload_n 0, 1) := by decide +kernel
theorem dX4_turned_1 : decode cX4_turned 1 = .ok (.iconst 3, 1) := by decide +kernel
theorem dX4_turned_2 : decode cX4_turned 2 = .ok (.irem, 1) := by decide +kernel
theorem dX4_turned_3 : decode cX4_turned 3 = .ok (.istore_n 2, 1) := by decide +kernel
theorem dX4_turned_4 : decode cX4_turned 4 = .ok (.iload_n 0, 1) := by decide +kernel
theorem dX4_turned_5 : decode cX4_turned 5 = .ok (.iconst 3, 1) := by decide +kernel
theorem dX4_turned_6 : decode cX4_turned 6 = .ok (.idiv, 1) := by decide +kernel
theorem dX4_turned_7 : decode cX4_turned 7 = .ok (.istore_n 3, 1) := by decide +kernel
theorem dX4_turned_8 : decode cX4_turned 8 = .ok (.iconst 0, 1) := by decide +kernel
theorem dX4_turned_9 : decode cX4_turned 9 = .ok (.istore 4, 2) := by decide +kernel
theorem dX4_turned_11 : decode cX4_turned 11 = .ok (.iload 4, 2) := by decide +kernel
theorem dX4_turned_13 : decode cX4_turned 13 = .ok (.iload_n 1, 1) := by decide +kernel
theorem dX4_turned_14 : decode cX4_turned 14 = .ok (.if_icmp .ge 19, 3) := by decide +kernel
theorem dX4_turned_17 : decode cX4_turned 17 = .ok (.iconst 2, 1) := by decide +kernel
theorem dX4_turned_18 : decode cX4_turned 18 = .ok (.iload_n 3, 1) := by decide +kernel
theorem dX4_turned_19 : decode cX4_turned 19 = .ok (.isub, 1) := by decide +kernel
theorem dX4_turned_20 : decode cX4_turned 20 = .ok (.istore 5, 2) := by decide +kernel
theorem dX4_turned_22 : decode cX4_turned 22 = .ok (.iload_n 2, 1) := by decide +kernel
theorem dX4_turned_23 : decode cX4_turned 23 = .ok (.istore_n 3, 1) := by decide +kernel
theorem dX4_turned_24 : decode cX4_turned 24 = .ok (.iload 5, 2) := by decide +kernel
theorem dX4_turned_26 : decode cX4_turned 26 = .ok (.istore_n 2, 1) := by decide +kernel
theorem dX4_turned_27 : decode cX4_turned 27 = .ok (.iinc 4 1, 3) := by decide +kernel
theorem dX4_turned_30 : decode cX4_turned 30 = .ok (.goto (-19), 3) := by decide +kernel
theorem dX4_turned_33 : decode cX4_turned 33 = .ok (.iload_n 3, 1) := by decide +kernel
theorem dX4_turned_34 : decode cX4_turned 34 = .ok (.iconst 3, 1) := by decide +kernel
theorem dX4_turned_35 : decode cX4_turned 35 = .ok (.imul, 1) := by decide +kernel
theorem dX4_turned_36 : decode cX4_turned 36 = .ok (.iload_n 2, 1) := by decide +kernel
theorem dX4_turned_37 : decode cX4_turned 37 = .ok (.iadd, 1) := by decide +kernel
theorem dX4_turned_38 : decode cX4_turned 38 = .ok (.ireturn, 1) := by decide +kernel
set_option maxRecDepth 20000 in
theorem ggX4_lay_X0_cell : GoodIn wsX4_lay wsX0_cell := goodIn_r _ [6, 7, 8, 25, 26, 27, 28] (by decide +kernel) (by decide +kernel)
set_option maxRecDepth 20000 in
theorem gX4_lay_X0_cell : GoodIn wsX4_lay (wsV RX4 70 RX0 yX0_cell wsX0_cell) := goodIn_app (goodIn_of _ (by decide +kernel)) ggX4_lay_X0_cell
set_option maxRecDepth 20000 in
theorem ggX4_lay_X0_kind : GoodIn wsX4_lay wsX0_kind := goodIn_r _ [12, 13, 25, 26, 27, 28] (by decide +kernel) (by decide +kernel)
set_option maxRecDepth 20000 in
theorem gX4_lay_X0_kind : GoodIn wsX4_lay (wsV RX4 81 RX0 yX0_kind wsX0_kind) := goodIn_app (goodIn_of _ (by decide +kernel)) ggX4_lay_X0_kind
set_option maxRecDepth 20000 in
theorem ggX4_lay_X0_put : GoodIn wsX4_lay wsX0_put := goodIn_r _ [17, 13, 25, 26, 27, 28] (by decide +kernel) (by decide +kernel)
set_option maxRecDepth 20000 in
theorem gX4_lay_X0_put : GoodIn wsX4_lay (wsV RX4 85 RX0 yX0_put wsX0_put) := goodIn_app (goodIn_of _ (by decide +kernel)) ggX4_lay_X0_put
theorem dX4_lay_0 : decode cX4_lay 0 = .ok (.aload_n 0, 1) := by decide +kernel
theorem dX4_lay_1 : decode cX4_lay 1 = .ok (.getfield 14, 3) := by decide +kernel
theorem dX4_lay_4 : decode cX4_lay 4 = .ok (.iload_n 1, 1) := by decide +kernel
theorem dX4_lay_5 : decode cX4_lay 5 = .ok (.iload_n 2, 1) := by decide +kernel
theorem dX4_lay_6 : decode cX4_lay 6 = .ok (.invokevirtual 70, 3) := by decide +kernel
theorem dX4_lay_9 : decode cX4_lay 9 = .ok (.istore_n 3, 1) := by decide +kernel
theorem dX4_lay_10 : decode cX4_lay 10 = .ok (.iload_n 3, 1) := by decide +kernel
theorem dX4_lay_11 : decode cX4_lay 11 = .ok (.iconst (-1), 1) := by decide +kernel
theorem dX4_lay_12 : decode cX4_lay 12 = .ok (.if_icmp .eq 14, 3) := by decide +kernel
theorem dX4_lay_15 : decode cX4_lay 15 = .ok (.aload_n 0, 1) := by decide +kernel
theorem dX4_lay_16 : decode cX4_lay 16 = .ok (.getfield 14, 3) := by decide +kernel
theorem dX4_lay_19 : decode cX4_lay 19 = .ok (.iload_n 3, 1) := by decide +kernel
theorem dX4_lay_20 : decode cX4_lay 20 = .ok (.invokevirtual 81, 3) := by decide +kernel
theorem dX4_lay_23 : decode cX4_lay 23 = .ok (.ifCond .eq 5, 3) := by decide +kernel
theorem dX4_lay_26 : decode cX4_lay 26 = .ok (.iconst 0, 1) := by decide +kernel
theorem dX4_lay_27 : decode cX4_lay 27 = .ok (.ireturn, 1) := by decide +kernel
theorem dX4_lay_28 : decode cX4_lay 28 = .ok (.aload_n 0, 1) := by decide +kernel
theorem dX4_lay_29 : decode cX4_lay 29 = .ok (.getfield 14, 3) := by decide +kernel
theorem dX4_lay_32 : decode cX4_lay 32 = .ok (.iload_n 3, 1) := by decide +kernel
theorem dX4_lay_33 : decode cX4_lay 33 = .ok (.iconst 1, 1) := by decide +kernel
theorem dX4_lay_34 : decode cX4_lay 34 = .ok (.invokevirtual 85, 3) := by decide +kernel
theorem dX4_lay_37 : decode cX4_lay 37 = .ok (.iconst 1, 1) := by decide +kernel
theorem dX4_lay_38 : decode cX4_lay 38 = .ok (.ireturn, 1) := by decide +kernel
set_option maxRecDepth 20000 in
theorem ggX4_headsOfTrial_X0_step : GoodIn wsX4_headsOfTrial wsX0_step := goodIn_r _ [6, 7, 8, 9, 10, 11, 5, 12, 13, 14, 15, 16, 17, 18, 19, 20, 21, 22, 23, 24, 25, 26, 27, 28, 29, 30, 31, 32, 33, 34, 35, 36, 37, 38, 39, 40, 41, 53, 54, 55, 56] (by decide +kernel) (by decide +kernel)
set_option maxRecDepth 20000 in
theorem gX4_headsOfTrial_X0_step : GoodIn wsX4_headsOfTrial (wsV RX4 150 RX0 yX0_step wsX0_step) := goodIn_app (goodIn_of _ (by decide +kernel)) ggX4_headsOfTrial_X0_step
set_option maxRecDepth 20000 in
theorem ggX4_headsOfTrial_X0_many : GoodIn wsX4_headsOfTrial wsX0_many := goodIn_r _ [45, 35, 36, 37, 5, 38, 14, 13, 23, 24, 25, 26, 7, 53, 54, 55, 56] (by decide +kernel) (by decide +kernel)
set_option maxRecDepth 20000 in
theorem gX4_headsOfTrial_X0_many : GoodIn wsX4_headsOfTrial (wsV RX4 138 RX0 yX0_many wsX0_many) := goodIn_app (goodIn_of _ (by decide +kernel)) ggX4_headsOfTrial_X0_many
theorem dX4_headsOfTrial_0 : decode cX4_headsOfTrial 0 = .ok (.iconst 0, 1) := by decide +kernel
theorem dX4_headsOfTrial_1 : decode cX4_headsOfTrial 1 = .ok (.istore_n 2, 1) := by decide +kernel
theorem dX4_headsOfTrial_2 : decode cX4_headsOfTrial 2 = .ok (.iload_n 2, 1) := by decide +kernel
theorem dX4_headsOfTrial_3 : decode cX4_headsOfTrial 3 = .ok (.iload_n 1, 1) := by decide +kernel
theorem dX4_headsOfTrial_4 : decode cX4_headsOfTrial 4 = .ok (.if_icmp .ge 16, 3) := by decide +kernel
theorem dX4_headsOfTrial_7 : decode cX4_headsOfTrial 7 = .ok (.aload_n 0, 1) := by decide +kernel
theorem dX4_headsOfTrial_8 : decode cX4_headsOfTrial 8 = .ok (.getfield 18, 3) := by decide +kernel
theorem dX4_headsOfTrial_11 : decode cX4_headsOfTrial 11 = .ok (.invokevirtual 150, 3) := by decide +kernel
theorem dX4_headsOfTrial_14 : decode cX4_headsOfTrial 14 = .ok (.iinc 2 1, 3) := by decide +kernel
theorem dX4_headsOfTrial_17 : decode cX4_headsOfTrial 17 = .ok (.goto (-15), 3) := by decide +kernel
theorem dX4_headsOfTrial_20 : decode cX4_headsOfTrial 20 = .ok (.aload_n 0, 1) := by decide +kernel
theorem dX4_headsOfTrial_21 : decode cX4_headsOfTrial 21 = .ok (.getfield 18, 3) := by decide +kernel
theorem dX4_headsOfTrial_24 : decode cX4_headsOfTrial 24 = .ok (.iconst 2, 1) := by decide +kernel
theorem dX4_headsOfTrial_25 : decode cX4_headsOfTrial 25 = .ok (.invokevirtual 138, 3) := by decide +kernel
theorem dX4_headsOfTrial_28 : decode cX4_headsOfTrial 28 = .ok (.ireturn, 1) := by decide +kernel
theorem dX5_init_0 : decode cX5_init 0 = .ok (.aload_n 0, 1) := by decide +kernel
theorem dX5_init_1 : decode cX5_init 1 = .ok (.invokespecial 1, 3) := by decide +kernel
theorem dX5_init_4 : decode cX5_init 4 = .ok (.aload_n 0, 1) := by decide +kernel
theorem dX5_init_5 : decode cX5_init 5 = .ok (.bipush 8, 2) := by decide +kernel
theorem dX5_init_7 : decode cX5_init 7 = .ok (.putfield 7, 3) := by decide +kernel
theorem dX5_init_10 : decode cX5_init 10 = .ok (.aload_n 0, 1) := by decide +kernel
theorem dX5_init_11 : decode cX5_init 11 = .ok (.bipush 6, 2) := by decide +kernel
theorem dX5_init_13 : decode cX5_init 13 = .ok (.putfield 13, 3) := by decide +kernel
theorem dX5_init_16 : decode cX5_init 16 = .ok (.aload_n 0, 1) := by decide +kernel
theorem dX5_init_17 : decode cX5_init 17 = .ok (.sipush 144, 3) := by decide +kernel
theorem dX5_init_20 : decode cX5_init 20 = .ok (.newarray .int, 2) := by decide +kernel
theorem dX5_init_22 : decode cX5_init 22 = .ok (.putfield 16, 3) := by decide +kernel
theorem dX5_init_25 : decode cX5_init 25 = .ok (.aload_n 0, 1) := by decide +kernel
theorem dX5_init_26 : decode cX5_init 26 = .ok (.sipush 144, 3) := by decide +kernel
theorem dX5_init_29 : decode cX5_init 29 = .ok (.newarray .int, 2) := by decide +kernel
theorem dX5_init_31 : decode cX5_init 31 = .ok (.putfield 20, 3) := by decide +kernel
theorem dX5_init_34 : decode cX5_init 34 = .ok (.aload_n 0, 1) := by decide +kernel
theorem dX5_init_35 : decode cX5_init 35 = .ok (.sipush 144, 3) := by decide +kernel
theorem dX5_init_38 : decode cX5_init 38 = .ok (.newarray .int, 2) := by decide +kernel
theorem dX5_init_40 : decode cX5_init 40 = .ok (.putfield 23, 3) := by decide +kernel
theorem dX5_init_43 : decode cX5_init 43 = .ok (.aload_n 0, 1) := by decide +kernel
theorem dX5_init_44 : decode cX5_init 44 = .ok (.bipush 20, 2) := by decide +kernel
theorem dX5_init_46 : decode cX5_init 46 = .ok (.newarray .int, 2) := by decide +kernel
theorem dX5_init_48 : decode cX5_init 48 = .ok (.putfield 26, 3) := by decide +kernel
theorem dX5_init_51 : decode cX5_init 51 = .ok (.aload_n 0, 1) := by decide +kernel
theorem dX5_init_52 : decode cX5_init 52 = .ok (.bipush 20, 2) := by decide +kernel
theorem dX5_init_54 : decode cX5_init 54 = .ok (.newarray .int, 2) := by decide +kernel
theorem dX5_init_56 : decode cX5_init 56 = .ok (.putfield 29, 3) := by decide +kernel
theorem dX5_init_59 : decode cX5_init 59 = .ok (.aload_n 0, 1) := by decide +kernel
theorem dX5_init_60 : decode cX5_init 60 = .ok (.sipush 13104, 3) := by decide +kernel
theorem dX5_init_63 : decode cX5_init 63 = .ok (.newarray .int, 2) := by decide +kernel
theorem dX5_init_65 : decode cX5_init 65 = .ok (.putfield 32, 3) := by decide +kernel
theorem dX5_init_68 : decode cX5_init 68 = .ok (.aload_n 0, 1) := by decide +kernel
theorem dX5_init_69 : decode cX5_init 69 = .ok (.sipush 144, 3) := by decide +kernel
theorem dX5_init_72 : decode cX5_init 72 = .ok (.newarray .int, 2) := by decide +kernel
theorem dX5_init_74 : decode cX5_init 74 = .ok (.putfield 35, 3) := by decide +kernel
theorem dX5_init_77 : decode cX5_init 77 = .ok (.aload_n 0, 1) := by decide +kernel
theorem dX5_init_78 : decode cX5_init 78 = .ok (.sipush 144, 3) := by decide +kernel
theorem dX5_init_81 : decode cX5_init 81 = .ok (.newarray .int, 2) := by decide +kernel
theorem dX5_init_83 : decode cX5_init 83 = .ok (.putfield 38, 3) := by decide +kernel
theorem dX5_init_86 : decode cX5_init 86 = .ok (.return_, 1) := by decide +kernel
theorem dX5_thrown_0 : decode cX5_thrown 0 = .ok (.aload_n 0, 1) := by decide +kernel
theorem dX5_thrown_1 : decode cX5_thrown 1 = .ok (.getfield 41, 3) := by decide +kernel
theorem dX5_thrown_4 : decode cX5_thrown 4 = .ok (.ireturn, 1) := by decide +kernel
theorem dX5_fail_0 : decode cX5_fail 0 = .ok (.aload_n 0, 1) := by decide +kernel
theorem dX5_fail_1 : decode cX5_fail 1 = .ok (.iload_n 1, 1) := by decide +kernel
theorem dX5_fail_2 : decode cX5_fail 2 = .ok (.putfield 41, 3) := by decide +kernel
theorem dX5_fail_5 : decode cX5_fail 5 = .ok (.iconst 0, 1) := by decide +kernel
theorem dX5_fail_6 : decode cX5_fail 6 = .ok (.ireturn, 1) := by decide +kernel
theorem dX5_isIn_0 : decode cX5_isIn 0 = .ok (.iload_n 0, 1) := by decide +kernel
theorem dX5_isIn_1 : decode cX5_isIn 1 = .ok (.iload_n 1, 1) := by decide +kernel
theorem dX5_isIn_2 : decode cX5_isIn 2 = .ok (.if_icmp .lt 12, 3) := by decide +kernel
theorem dX5_isIn_5 : decode cX5_isIn 5 = .ok (.iload_n 0, 1) := by decide +kernel
theorem dX5_isIn_6 : decode cX5_isIn 6 = .ok (.iload_n 2, 1) := by decide +kernel
theorem dX5_isIn_7 : decode cX5_isIn 7 = .ok (.if_icmp .gt 7, 3) := by decide +kernel
theorem dX5_isIn_10 : decode cX5_isIn 10 = .ok (.iconst 1, 1) := by decide +kernel
theorem dX5_isIn_11 : decode cX5_isIn 11 = .ok (.goto 4, 3) := by decide +kernel
theorem dX5_isIn_14 : decode cX5_isIn 14 = .ok (.iconst 0, 1) := by decide +kernel
theorem dX5_isIn_15 : decode cX5_isIn 15 = .ok (.ireturn, 1) := by decide +kernel
set_option maxRecDepth 20000 in
theorem ggX5_isCell_X5_isIn : GoodIn wsX5_isCell wsX5_isIn := goodIn_r _ [6] (by decide +kernel) (by decide +kernel)
set_option maxRecDepth 20000 in
theorem gX5_isCell_X5_isIn : GoodIn wsX5_isCell (va_wsS RX5 44 yX5_isIn wsX5_isIn) := goodIn_app (goodIn_of _ (by decide +kernel)) ggX5_isCell_X5_isIn
theorem dX5_isCell_0 : decode cX5_isCell 0 = .ok (.iload_n 1, 1) := by decide +kernel
theorem dX5_isCell_1 : decode cX5_isCell 1 = .ok (.iconst 0, 1) := by decide +kernel
theorem dX5_isCell_2 : decode cX5_isCell 2 = .ok (.aload_n 0, 1) := by decide +kernel
theorem dX5_isCell_3 : decode cX5_isCell 3 = .ok (.getfield 7, 3) := by decide +kernel
theorem dX5_isCell_6 : decode cX5_isCell 6 = .ok (.iconst 1, 1) := by decide +kernel
theorem dX5_isCell_7 : decode cX5_isCell 7 = .ok (.isub, 1) := by decide +kernel
theorem dX5_isCell_8 : decode cX5_isCell 8 = .ok (.invokestatic 44, 3) := by decide +kernel
theorem dX5_isCell_11 : decode cX5_isCell 11 = .ok (.ifCond .eq 21, 3) := by decide +kernel
theorem dX5_isCell_14 : decode cX5_isCell 14 = .ok (.iload_n 2, 1) := by decide +kernel
theorem dX5_isCell_15 : decode cX5_isCell 15 = .ok (.iconst 0, 1) := by decide +kernel
theorem dX5_isCell_16 : decode cX5_isCell 16 = .ok (.aload_n 0, 1) := by decide +kernel
theorem dX5_isCell_17 : decode cX5_isCell 17 = .ok (.getfield 13, 3) := by decide +kernel
theorem dX5_isCell_20 : decode cX5_isCell 20 = .ok (.iconst 1, 1) := by decide +kernel
theorem dX5_isCell_21 : decode cX5_isCell 21 = .ok (.isub, 1) := by decide +kernel
theorem dX5_isCell_22 : decode cX5_isCell 22 = .ok (.invokestatic 44, 3) := by decide +kernel
theorem dX5_isCell_25 : decode cX5_isCell 25 = .ok (.ifCond .eq 7, 3) := by decide +kernel
theorem dX5_isCell_28 : decode cX5_isCell 28 = .ok (.iconst 1, 1) := by decide +kernel
theorem dX5_isCell_29 : decode cX5_isCell 29 = .ok (.goto 4, 3) := by decide +kernel
theorem dX5_isCell_32 : decode cX5_isCell 32 = .ok (.iconst 0, 1) := by decide +kernel
theorem dX5_isCell_33 : decode cX5_isCell 33 = .ok (.ireturn, 1) := by decide +kernel
theorem dX5_at_0 : decode cX5_at 0 = .ok (.bipush 12, 2) := by decide +kernel
theorem dX5_at_2 : decode cX5_at 2 = .ok (.iload_n 1, 1) := by decide +kernel
theorem dX5_at_3 : decode cX5_at 3 = .ok (.iconst 1, 1) := by decide +kernel
theorem dX5_at_4 : decode cX5_at 4 = .ok (.iadd, 1) := by decide +kernel
theorem dX5_at_5 : decode cX5_at 5 = .ok (.imul, 1) := by decide +kernel
theorem dX5_at_6 : decode cX5_at 6 = .ok (.iload_n 0, 1) := by decide +kernel
theorem dX5_at_7 : decode cX5_at 7 = .ok (.iadd, 1) := by decide +kernel
theorem dX5_at_8 : decode cX5_at 8 = .ok (.iconst 1, 1) := by decide +kernel
theorem dX5_at_9 : decode cX5_at 9 = .ok (.iadd, 1) := by decide +kernel
theorem dX5_at_10 : decode cX5_at 10 = .ok (.ireturn, 1) := by decide +kernel
set_option maxRecDepth 20000 in
theorem ggX5_cell_X5_at : GoodIn wsX5_cell wsX5_at := goodIn_r _ [5] (by decide +kernel) (by decide +kernel)
set_option maxRecDepth 20000 in
theorem gX5_cell_X5_at : GoodIn wsX5_cell (va_wsS RX5 48 yX5_at wsX5_at) := goodIn_app (goodIn_of _ (by decide +kernel)) ggX5_cell_X5_at
theorem dX5_cell_0 : decode cX5_cell 0 = .ok (.iload_n 1, 1) := by decide +kernel
theorem dX5_cell_1 : decode cX5_cell 1 = .ok (.aload_n 0, 1) := by decide +kernel
theorem dX5_cell_2 : decode cX5_cell 2 = .ok (.getfield 7, 3) := by decide +kernel
theorem dX5_cell_5 : decode cX5_cell 5 = .ok (.irem, 1) := by decide +kernel
theorem dX5_cell_6 : decode cX5_cell 6 = .ok (.iload_n 1, 1) := by decide +kernel
theorem dX5_cell_7 : decode cX5_cell 7 = .ok (.aload_n 0, 1) := by decide +kernel
theorem dX5_cell_8 : decode cX5_cell 8 = .ok (.getfield 7, 3) := by decide +kernel
theorem dX5_cell_11 : decode cX5_cell 11 = .ok (.idiv, 1) := by decide +kernel
theorem dX5_cell_12 : decode cX5_cell 12 = .ok (.invokestatic 48, 3) := by decide +kernel
theorem dX5_cell_15 : decode cX5_cell 15 = .ok (.ireturn, 1) := by decide +kernel
theorem dX5_around_0 : decode cX5_around 0 = .ok (.iconst 0, 1) := by decide +kernel
theorem dX5_around_1 : decode cX5_around 1 = .ok (.istore_n 3, 1) := by decide +kernel
theorem dX5_around_2 : decode cX5_around 2 = .ok (.getstatic 52, 3) := by decide +kernel
theorem dX5_around_5 : decode cX5_around 5 = .ok (.astore 4, 2) := by decide +kernel
theorem dX5_around_7 : decode cX5_around 7 = .ok (.aload 4, 2) := by decide +kernel
theorem dX5_around_9 : decode cX5_around 9 = .ok (.arraylength, 1) := by decide +kernel
theorem dX5_around_10 : decode cX5_around 10 = .ok (.istore 5, 2) := by decide +kernel
theorem dX5_around_12 : decode cX5_around 12 = .ok (.iconst 0, 1) := by decide +kernel
theorem dX5_around_13 : decode cX5_around 13 = .ok (.istore 6, 2) := by decide +kernel
theorem dX5_around_15 : decode cX5_around 15 = .ok (.iload 6, 2) := by decide +kernel
theorem dX5_around_17 : decode cX5_around 17 = .ok (.iload 5, 2) := by decide +kernel
theorem dX5_around_19 : decode cX5_around 19 = .ok (.if_icmp .ge 37, 3) := by decide +kernel
theorem dX5_around_22 : decode cX5_around 22 = .ok (.aload 4, 2) := by decide +kernel
theorem dX5_around_24 : decode cX5_around 24 = .ok (.iload 6, 2) := by decide +kernel
theorem dX5_around_26 : decode cX5_around 26 = .ok (.iaload, 1) := by decide +kernel
theorem dX5_around_27 : decode cX5_around 27 = .ok (.istore 7, 2) := by decide +kernel
theorem dX5_around_29 : decode cX5_around 29 = .ok (.iload_n 3, 1) := by decide +kernel
theorem dX5_around_30 : decode cX5_around 30 = .ok (.aload_n 0, 1) := by decide +kernel
theorem dX5_around_31 : decode cX5_around 31 = .ok (.getfield 16, 3) := by decide +kernel
theorem dX5_around_34 : decode cX5_around 34 = .ok (.iload_n 1, 1) := by decide +kernel
theorem dX5_around_35 : decode cX5_around 35 = .ok (.iload 7, 2) := by decide +kernel
theorem dX5_around_37 : decode cX5_around 37 = .ok (.iadd, 1) := by decide +kernel
theorem dX5_around_38 : decode cX5_around 38 = .ok (.iaload, 1) := by decide +kernel
theorem dX5_around_39 : decode cX5_around 39 = .ok (.iload_n 2, 1) := by decide +kernel
theorem dX5_around_40 : decode cX5_around 40 = .ok (.if_icmp .ne 7, 3) := by decide +kernel
theorem dX5_around_43 : decode cX5_around 43 = .ok (.iconst 1, 1) := by decide +kernel
theorem dX5_around_44 : decode cX5_around 44 = .ok (.goto 4, 3) := by decide +kernel
theorem dX5_around_47 : decode cX5_around 47 = .ok (.iconst 0, 1) := by decide +kernel
theorem dX5_around_48 : decode cX5_around 48 = .ok (.iadd, 1) := by decide +kernel
theorem dX5_around_49 : decode cX5_around 49 = .ok (.istore_n 3, 1) := by decide +kernel
theorem dX5_around_50 : decode cX5_around 50 = .ok (.iinc 6 1, 3) := by decide +kernel
theorem dX5_around_53 : decode cX5_around 53 = .ok (.goto (-38), 3) := by decide +kernel
theorem dX5_around_56 : decode cX5_around 56 = .ok (.iload_n 3, 1) := by decide +kernel
theorem dX5_around_57 : decode cX5_around 57 = .ok (.ireturn, 1) := by decide +kernel
set_option maxRecDepth 20000 in
theorem ggX5_next_X5_around : GoodIn wsX5_next wsX5_around := goodIn_r _ [6, 7, 1, 8, 9, 10, 11, 12, 13, 14, 15, 16, 17, 18, 19, 20, 21] (by decide +kernel) (by decide +kernel)
set_option maxRecDepth 20000 in
theorem gX5_next_X5_around : GoodIn wsX5_next (wsV RX5 55 RX5 yX5_around wsX5_around) := goodIn_app (goodIn_of _ (by decide +kernel)) ggX5_next_X5_around
theorem dX5_next_0 : decode cX5_next 0 = .ok (.aload_n 0, 1) := by decide +kernel
theorem dX5_next_1 : decode cX5_next 1 = .ok (.getfield 16, 3) := by decide +kernel
theorem dX5_next_4 : decode cX5_next 4 = .ok (.iload_n 1, 1) := by decide +kernel
theorem dX5_next_5 : decode cX5_next 5 = .ok (.iaload, 1) := by decide +kernel
theorem dX5_next_6 : decode cX5_next 6 = .ok (.tableswitch 36 0 3 #[30, 36, 32, 34], 30) := by decide +kernel
theorem dX5_next_36 : decode cX5_next 36 = .ok (.iconst 0, 1) := by decide +kernel
theorem dX5_next_37 : decode cX5_next 37 = .ok (.ireturn, 1) := by decide +kernel
theorem dX5_next_38 : decode cX5_next 38 = .ok (.iconst 3, 1) := by decide +kernel
theorem dX5_next_39 : decode cX5_next 39 = .ok (.ireturn, 1) := by decide +kernel
theorem dX5_next_40 : decode cX5_next 40 = .ok (.iconst 1, 1) := by decide +kernel
theorem dX5_next_41 : decode cX5_next 41 = .ok (.ireturn, 1) := by decide +kernel
theorem dX5_next_42 : decode cX5_next 42 = .ok (.aload_n 0, 1) := by decide +kernel
theorem dX5_next_43 : decode cX5_next 43 = .ok (.iload_n 1, 1) := by decide +kernel
theorem dX5_next_44 : decode cX5_next 44 = .ok (.iconst 2, 1) := by decide +kernel
theorem dX5_next_45 : decode cX5_next 45 = .ok (.invokevirtual 55, 3) := by decide +kernel
theorem dX5_next_48 : decode cX5_next 48 = .ok (.istore_n 2, 1) := by decide +kernel
theorem dX5_next_49 : decode cX5_next 49 = .ok (.iload_n 2, 1) := by decide +kernel
theorem dX5_next_50 : decode cX5_next 50 = .ok (.iconst 1, 1) := by decide +kernel
theorem dX5_next_51 : decode cX5_next 51 = .ok (.if_icmp .eq 8, 3) := by decide +kernel
theorem dX5_next_54 : decode cX5_next 54 = .ok (.iload_n 2, 1) := by decide +kernel
theorem dX5_next_55 : decode cX5_next 55 = .ok (.iconst 2, 1) := by decide +kernel
theorem dX5_next_56 : decode cX5_next 56 = .ok (.if_icmp .ne 7, 3) := by decide +kernel
theorem dX5_next_59 : decode cX5_next 59 = .ok (.iconst 2, 1) := by decide +kernel
theorem dX5_next_60 : decode cX5_next 60 = .ok (.goto 4, 3) := by decide +kernel
theorem dX5_next_63 : decode cX5_next 63 = .ok (.iconst 1, 1) := by decide +kernel
theorem dX5_next_64 : decode cX5_next 64 = .ok (.ireturn, 1) := by decide +kernel
set_option maxRecDepth 20000 in
theorem ggX5_cells_X5_cell : GoodIn wsX5_cells wsX5_cell := goodIn_r _ [8, 1, 9, 10, 7, 11, 12, 13, 14, 15, 16, 17, 18, 19, 20, 21, 22, 23, 24, 25] (by decide +kernel) (by decide +kernel)
set_option maxRecDepth 20000 in
theorem gX5_cells_X5_cell : GoodIn wsX5_cells (wsV RX5 58 RX5 yX5_cell wsX5_cell) := goodIn_app (goodIn_of _ (by decide +kernel)) ggX5_cells_X5_cell
theorem dX5_cells_0 : decode cX5_cells 0 = .ok (.iconst 0, 1) := by decide +kernel
theorem dX5_cells_1 : decode cX5_cells 1 = .ok (.istore_n 2, 1) := by decide +kernel
theorem dX5_cells_2 : decode cX5_cells 2 = .ok (.iconst 0, 1) := by decide +kernel
theorem dX5_cells_3 : decode cX5_cells 3 = .ok (.istore_n 3, 1) := by decide +kernel
theorem dX5_cells_4 : decode cX5_cells 4 = .ok (.iload_n 3, 1) := by decide +kernel
theorem dX5_cells_5 : decode cX5_cells 5 = .ok (.aload_n 0, 1) := by decide +kernel
theorem dX5_cells_6 : decode cX5_cells 6 = .ok (.getfield 7, 3) := by decide +kernel
theorem dX5_cells_9 : decode cX5_cells 9 = .ok (.aload_n 0, 1) := by decide +kernel
theorem dX5_cells_10 : decode cX5_cells 10 = .ok (.getfield 13, 3) := by decide +kernel
theorem dX5_cells_13 : decode cX5_cells 13 = .ok (.imul, 1) := by decide +kernel
theorem dX5_cells_14 : decode cX5_cells 14 = .ok (.if_icmp .ge 31, 3) := by decide +kernel
theorem dX5_cells_17 : decode cX5_cells 17 = .ok (.iload_n 2, 1) := by decide +kernel
theorem dX5_cells_18 : decode cX5_cells 18 = .ok (.aload_n 0, 1) := by decide +kernel
theorem dX5_cells_19 : decode cX5_cells 19 = .ok (.getfield 16, 3) := by decide +kernel
theorem dX5_cells_22 : decode cX5_cells 22 = .ok (.aload_n 0, 1) := by decide +kernel
theorem dX5_cells_23 : decode cX5_cells 23 = .ok (.iload_n 3, 1) := by decide +kernel
theorem dX5_cells_24 : decode cX5_cells 24 = .ok (.invokevirtual 58, 3) := by decide +kernel
theorem dX5_cells_27 : decode cX5_cells 27 = .ok (.iaload, 1) := by decide +kernel
theorem dX5_cells_28 : decode cX5_cells 28 = .ok (.iload_n 1, 1) := by decide +kernel
theorem dX5_cells_29 : decode cX5_cells 29 = .ok (.if_icmp .ne 7, 3) := by decide +kernel
theorem dX5_cells_32 : decode cX5_cells 32 = .ok (.iconst 1, 1) := by decide +kernel
theorem dX5_cells_33 : decode cX5_cells 33 = .ok (.goto 4, 3) := by decide +kernel
theorem dX5_cells_36 : decode cX5_cells 36 = .ok (.iconst 0, 1) := by decide +kernel
theorem dX5_cells_37 : decode cX5_cells 37 = .ok (.iadd, 1) := by decide +kernel
theorem dX5_cells_38 : decode cX5_cells 38 = .ok (.istore_n 2, 1) := by decide +kernel
theorem dX5_cells_39 : decode cX5_cells 39 = .ok (.iinc 3 1, 3) := by decide +kernel
theorem dX5_cells_42 : decode cX5_cells 42 = .ok (.goto (-38), 3) := by decide +kernel
theorem dX5_cells_45 : decode cX5_cells 45 = .ok (.iload_n 2, 1) := by decide +kernel
theorem dX5_cells_46 : decode cX5_cells 46 = .ok (.ireturn, 1) := by decide +kernel
set_option maxRecDepth 20000 in
theorem ggX5_step_X5_cell : GoodIn wsX5_step wsX5_cell := goodIn_r _ [9, 1, 10, 11, 8, 12, 22, 23, 24, 25, 26, 27, 28, 29, 30, 31, 32, 33, 34, 35] (by decide +kernel) (by decide +kernel)
set_option maxRecDepth 20000 in
theorem gX5_step_X5_cell : GoodIn wsX5_step (wsV RX5 58 RX5 yX5_cell wsX5_cell) := goodIn_app (goodIn_of _ (by decide +kernel)) ggX5_step_X5_cell
set_option maxRecDepth 20000 in
theorem ggX5_step_X5_next : GoodIn wsX5_step wsX5_next := goodIn_r _ [16, 4, 17, 18, 19, 8, 20, 21, 22, 23, 24, 25, 26, 27, 28, 29, 30, 31, 32, 33, 34, 35] (by decide +kernel) (by decide +kernel)
set_option maxRecDepth 20000 in
theorem gX5_step_X5_next : GoodIn wsX5_step (wsV RX5 62 RX5 yX5_next wsX5_next) := goodIn_app (goodIn_of _ (by decide +kernel)) ggX5_step_X5_next
theorem dX5_step_0 : decode cX5_step 0 = .ok (.iconst 0, 1) := by decide +kernel
theorem dX5_step_1 : decode cX5_step 1 = .ok (.istore_n 1, 1) := by decide +kernel
theorem dX5_step_2 : decode cX5_step 2 = .ok (.iload_n 1, 1) := by decide +kernel
theorem dX5_step_3 : decode cX5_step 3 = .ok (.aload_n 0, 1) := by decide +kernel
theorem dX5_step_4 : decode cX5_step 4 = .ok (.getfield 7, 3) := by decide +kernel
theorem dX5_step_7 : decode cX5_step 7 = .ok (.aload_n 0, 1) := by decide +kernel
theorem dX5_step_8 : decode cX5_step 8 = .ok (.getfield 13, 3) := by decide +kernel
theorem dX5_step_11 : decode cX5_step 11 = .ok (.imul, 1) := by decide +kernel
theorem dX5_step_12 : decode cX5_step 12 = .ok (.if_icmp .ge 28, 3) := by decide +kernel
theorem dX5_step_15 : decode cX5_step 15 = .ok (.aload_n 0, 1) := by decide +kernel
theorem dX5_step_16 : decode cX5_step 16 = .ok (.getfield 23, 3) := by decide +kernel
theorem dX5_step_19 : decode cX5_step 19 = .ok (.aload_n 0, 1) := by decide +kernel
theorem dX5_step_20 : decode cX5_step 20 = .ok (.iload_n 1, 1) := by decide +kernel
theorem dX5_step_21 : decode cX5_step 21 = .ok (.invokevirtual 58, 3) := by decide +kernel
theorem dX5_step_24 : decode cX5_step 24 = .ok (.aload_n 0, 1) := by decide +kernel
theorem dX5_step_25 : decode cX5_step 25 = .ok (.aload_n 0, 1) := by decide +kernel
theorem dX5_step_26 : decode cX5_step 26 = .ok (.iload_n 1, 1) := by decide +kernel
theorem dX5_step_27 : decode cX5_step 27 = .ok (.invokevirtual 58, 3) := by decide +kernel
theorem dX5_step_30 : decode cX5_step 30 = .ok (.invokevirtual 62, 3) := by decide +kernel
theorem dX5_step_33 : decode cX5_step 33 = .ok (.iastore, 1) := by decide +kernel
theorem dX5_step_34 : decode cX5_step 34 = .ok (.iinc 1 1, 3) := by decide +kernel
theorem dX5_step_37 : decode cX5_step 37 = .ok (.goto (-35), 3) := by decide +kernel
theorem dX5_step_40 : decode cX5_step 40 = .ok (.iconst 0, 1) := by decide +kernel
theorem dX5_step_41 : decode cX5_step 41 = .ok (.istore_n 1, 1) := by decide +kernel
theorem dX5_step_42 : decode cX5_step 42 = .ok (.iload_n 1, 1) := by decide +kernel
theorem dX5_step_43 : decode cX5_step 43 = .ok (.aload_n 0, 1) := by decide +kernel
theorem dX5_step_44 : decode cX5_step 44 = .ok (.getfield 7, 3) := by decide +kernel
theorem dX5_step_47 : decode cX5_step 47 = .ok (.aload_n 0, 1) := by decide +kernel
theorem dX5_step_48 : decode cX5_step 48 = .ok (.getfield 13, 3) := by decide +kernel
theorem dX5_step_51 : decode cX5_step 51 = .ok (.imul, 1) := by decide +kernel
theorem dX5_step_52 : decode cX5_step 52 = .ok (.if_icmp .ge 29, 3) := by decide +kernel
theorem dX5_step_55 : decode cX5_step 55 = .ok (.aload_n 0, 1) := by decide +kernel
theorem dX5_step_56 : decode cX5_step 56 = .ok (.getfield 16, 3) := by decide +kernel
theorem dX5_step_59 : decode cX5_step 59 = .ok (.aload_n 0, 1) := by decide +kernel
theorem dX5_step_60 : decode cX5_step 60 = .ok (.iload_n 1, 1) := by decide +kernel
theorem dX5_step_61 : decode cX5_step 61 = .ok (.invokevirtual 58, 3) := by decide +kernel
theorem dX5_step_64 : decode cX5_step 64 = .ok (.aload_n 0, 1) := by decide +kernel
theorem dX5_step_65 : decode cX5_step 65 = .ok (.getfield 23, 3) := by decide +kernel
theorem dX5_step_68 : decode cX5_step 68 = .ok (.aload_n 0, 1) := by decide +kernel
theorem dX5_step_69 : decode cX5_step 69 = .ok (.iload_n 1, 1) := by decide +kernel
theorem dX5_step_70 : decode cX5_step 70 = .ok (.invokevirtual 58, 3) := by decide +kernel
theorem dX5_step_73 : decode cX5_step 73 = .ok (.iaload, 1) := by decide +kernel
theorem dX5_step_74 : decode cX5_step 74 = .ok (.iastore, 1) := by decide +kernel
theorem dX5_step_75 : decode cX5_step 75 = .ok (.iinc 1 1, 3) := by decide +kernel
theorem dX5_step_78 : decode cX5_step 78 = .ok (.goto (-36), 3) := by decide +kernel
theorem dX5_step_81 : decode cX5_step 81 = .ok (.return_, 1) := by decide +kernel
theorem dX5_light_0 : decode cX5_light 0 = .ok (.iconst 0, 1) := by decide +kernel
theorem dX5_light_1 : decode cX5_light 1 = .ok (.istore_n 2, 1) := by decide +kernel
theorem dX5_light_2 : decode cX5_light 2 = .ok (.iload_n 2, 1) := by decide +kernel
theorem dX5_light_3 : decode cX5_light 3 = .ok (.aload_n 0, 1) := by decide +kernel
theorem dX5_light_4 : decode cX5_light 4 = .ok (.getfield 65, 3) := by decide +kernel
theorem dX5_light_7 : decode cX5_light 7 = .ok (.if_icmp .ge 54, 3) := by decide +kernel
theorem dX5_light_10 : decode cX5_light 10 = .ok (.aload_n 0, 1) := by decide +kernel
theorem dX5_light_11 : decode cX5_light 11 = .ok (.getfield 16, 3) := by decide +kernel
theorem dX5_light_14 : decode cX5_light 14 = .ok (.aload_n 0, 1) := by decide +kernel
theorem dX5_light_15 : decode cX5_light 15 = .ok (.getfield 26, 3) := by decide +kernel
theorem dX5_light_18 : decode cX5_light 18 = .ok (.iconst 4, 1) := by decide +kernel
theorem dX5_light_19 : decode cX5_light 19 = .ok (.iload_n 2, 1) := by decide +kernel
theorem dX5_light_20 : decode cX5_light 20 = .ok (.imul, 1) := by decide +kernel
theorem dX5_light_21 : decode cX5_light 21 = .ok (.iaload, 1) := by decide +kernel
theorem dX5_light_22 : decode cX5_light 22 = .ok (.iaload, 1) := by decide +kernel
theorem dX5_light_23 : decode cX5_light 23 = .ok (.iconst 2, 1) := by decide +kernel
theorem dX5_light_24 : decode cX5_light 24 = .ok (.if_icmp .eq 6, 3) := by decide +kernel
theorem dX5_light_27 : decode cX5_light 27 = .ok (.goto 28, 3) := by decide +kernel
theorem dX5_light_30 : decode cX5_light 30 = .ok (.aload_n 0, 1) := by decide +kernel
theorem dX5_light_31 : decode cX5_light 31 = .ok (.getfield 26, 3) := by decide +kernel
theorem dX5_light_34 : decode cX5_light 34 = .ok (.iconst 4, 1) := by decide +kernel
theorem dX5_light_35 : decode cX5_light 35 = .ok (.iload_n 2, 1) := by decide +kernel
theorem dX5_light_36 : decode cX5_light 36 = .ok (.imul, 1) := by decide +kernel
theorem dX5_light_37 : decode cX5_light 37 = .ok (.iconst 1, 1) := by decide +kernel
theorem dX5_light_38 : decode cX5_light 38 = .ok (.iadd, 1) := by decide +kernel
theorem dX5_light_39 : decode cX5_light 39 = .ok (.dup2, 1) := by decide +kernel
theorem dX5_light_40 : decode cX5_light 40 = .ok (.iaload, 1) := by decide +kernel
theorem dX5_light_41 : decode cX5_light 41 = .ok (.iconst 1, 1) := by decide +kernel
theorem dX5_light_42 : decode cX5_light 42 = .ok (.iadd, 1) := by decide +kernel
theorem dX5_light_43 : decode cX5_light 43 = .ok (.iastore, 1) := by decide +kernel
theorem dX5_light_44 : decode cX5_light 44 = .ok (.aload_n 0, 1) := by decide +kernel
theorem dX5_light_45 : decode cX5_light 45 = .ok (.getfield 26, 3) := by decide +kernel
theorem dX5_light_48 : decode cX5_light 48 = .ok (.iconst 4, 1) := by decide +kernel
theorem dX5_light_49 : decode cX5_light 49 = .ok (.iload_n 2, 1) := by decide +kernel
theorem dX5_light_50 : decode cX5_light 50 = .ok (.imul, 1) := by decide +kernel
theorem dX5_light_51 : decode cX5_light 51 = .ok (.iconst 2, 1) := by decide +kernel
theorem dX5_light_52 : decode cX5_light 52 = .ok (.iadd, 1) := by decide +kernel
theorem dX5_light_53 : decode cX5_light 53 = .ok (.iload_n 1, 1) := by decide +kernel
theorem dX5_light_54 : decode cX5_light 54 = .ok (.iastore, 1) := by decide +kernel
theorem dX5_light_55 : decode cX5_light 55 = .ok (.iinc 2 1, 3) := by decide +kernel
theorem dX5_light_58 : decode cX5_light 58 = .ok (.goto (-56), 3) := by decide +kernel
theorem dX5_light_61 : decode cX5_light 61 = .ok (.return_, 1) := by decide +kernel
theorem dX5_keep_0 : decode cX5_keep 0 = .ok (.aload_n 0, 1) := by decide +kernel
theorem dX5_keep_1 : decode cX5_keep 1 = .ok (.getfield 16, 3) := by decide +kernel
theorem dX5_keep_4 : decode cX5_keep 4 = .ok (.iconst 0, 1) := by decide +kernel
theorem dX5_keep_5 : decode cX5_keep 5 = .ok (.aload_n 0, 1) := by decide +kernel
theorem dX5_keep_6 : decode cX5_keep 6 = .ok (.getfield 20, 3) := by decide +kernel
theorem dX5_keep_9 : decode cX5_keep 9 = .ok (.iconst 0, 1) := by decide +kernel
theorem dX5_keep_10 : decode cX5_keep 10 = .ok (.sipush 144, 3) := by decide +kernel
theorem dX5_keep_13 : decode cX5_keep 13 = .ok (.invokestatic 68, 3) := by decide +kernel
theorem dX5_keep_16 : decode cX5_keep 16 = .ok (.aload_n 0, 1) := by decide +kernel
theorem dX5_keep_17 : decode cX5_keep 17 = .ok (.getfield 26, 3) := by decide +kernel
theorem dX5_keep_20 : decode cX5_keep 20 = .ok (.iconst 0, 1) := by decide +kernel
theorem dX5_keep_21 : decode cX5_keep 21 = .ok (.aload_n 0, 1) := by decide +kernel
theorem dX5_keep_22 : decode cX5_keep 22 = .ok (.getfield 29, 3) := by decide +kernel
theorem dX5_keep_25 : decode cX5_keep 25 = .ok (.iconst 0, 1) := by decide +kernel
theorem dX5_keep_26 : decode cX5_keep 26 = .ok (.aload_n 0, 1) := by decide +kernel
theorem dX5_keep_27 : decode cX5_keep 27 = .ok (.getfield 26, 3) := by decide +kernel
theorem dX5_keep_30 : decode cX5_keep 30 = .ok (.arraylength, 1) := by decide +kernel
theorem dX5_keep_31 : decode cX5_keep 31 = .ok (.invokestatic 68, 3) := by decide +kernel
theorem dX5_keep_34 : decode cX5_keep 34 = .ok (.return_, 1) := by decide +kernel
theorem dX5_bringBack_0 : decode cX5_bringBack 0 = .ok (.aload_n 0, 1) := by decide +kernel
theorem dX5_bringBack_1 : decode cX5_bringBack 1 = .ok (.getfield 20, 3) := by decide +kernel
theorem dX5_bringBack_4 : decode cX5_bringBack 4 = .ok (.iconst 0, 1) := by decide +kernel
theorem dX5_bringBack_5 : decode cX5_bringBack 5 = .ok (.aload_n 0, 1) := by decide +kernel
theorem dX5_bringBack_6 : decode cX5_bringBack 6 = .ok (.getfield 16, 3) := by decide +kernel
theorem dX5_bringBack_9 : decode cX5_bringBack 9 = .ok (.iconst 0, 1) := by decide +kernel
theorem dX5_bringBack_10 : decode cX5_bringBack 10 = .ok (.sipush 144, 3) := by decide +kernel
theorem dX5_bringBack_13 : decode cX5_bringBack 13 = .ok (.invokestatic 68, 3) := by decide +kernel
theorem dX5_bringBack_16 : decode cX5_bringBack 16 = .ok (.aload_n 0, 1) := by decide +kernel
theorem dX5_bringBack_17 : decode cX5_bringBack 17 = .ok (.getfield 29, 3) := by decide +kernel
theorem dX5_bringBack_20 : decode cX5_bringBack 20 = .ok (.iconst 0, 1) := by decide +kernel
theorem dX5_bringBack_21 : decode cX5_bringBack 21 = .ok (.aload_n 0, 1) := by decide +kernel
theorem dX5_bringBack_22 : decode cX5_bringBack 22 = .ok (.getfield 26, 3) := by decide +kernel
theorem dX5_bringBack_25 : decode cX5_bringBack 25 = .ok (.iconst 0, 1) := by decide +kernel
theorem dX5_bringBack_26 : decode cX5_bringBack 26 = .ok (.aload_n 0, 1) := by decide +kernel
theorem dX5_bringBack_27 : decode cX5_bringBack 27 = .ok (.getfield 26, 3) := by decide +kernel
theorem dX5_bringBack_30 : decode cX5_bringBack 30 = .ok (.arraylength, 1) := by decide +kernel
theorem dX5_bringBack_31 : decode cX5_bringBack 31 = .ok (.invokestatic 68, 3) := by decide +kernel
theorem dX5_bringBack_34 : decode cX5_bringBack 34 = .ok (.return_, 1) := by decide +kernel
set_option maxRecDepth 20000 in
theorem ggX5_setBoard_X5_isIn : GoodIn wsX5_setBoard wsX5_isIn := goodIn_r _ [9] (by decide +kernel) (by decide +kernel)
set_option maxRecDepth 20000 in
theorem gX5_setBoard_X5_isIn : GoodIn wsX5_setBoard (va_wsS RX5 44 yX5_isIn wsX5_isIn) := goodIn_app (goodIn_of _ (by decide +kernel)) ggX5_setBoard_X5_isIn
set_option maxRecDepth 20000 in
theorem ggX5_setBoard_X5_fail : GoodIn wsX5_setBoard wsX5_fail := goodIn_r _ [13, 1, 14, 15, 16, 17, 18, 19, 20, 21, 22, 23, 24, 25, 26, 27] (by decide +kernel) (by decide +kernel)
set_option maxRecDepth 20000 in
theorem gX5_setBoard_X5_fail : GoodIn wsX5_setBoard (wsV RX5 74 RX5 yX5_fail wsX5_fail) := goodIn_app (goodIn_of _ (by decide +kernel)) ggX5_setBoard_X5_fail
theorem dX5_setBoard_0 : decode cX5_setBoard 0 = .ok (.aload_n 0, 1) := by decide +kernel
theorem dX5_setBoard_1 : decode cX5_setBoard 1 = .ok (.iconst 0, 1) := by decide +kernel
theorem dX5_setBoard_2 : decode cX5_setBoard 2 = .ok (.putfield 41, 3) := by decide +kernel
theorem dX5_setBoard_5 : decode cX5_setBoard 5 = .ok (.iload_n 1, 1) := by decide +kernel
theorem dX5_setBoard_6 : decode cX5_setBoard 6 = .ok (.iconst 3, 1) := by decide +kernel
theorem dX5_setBoard_7 : decode cX5_setBoard 7 = .ok (.bipush 10, 2) := by decide +kernel
theorem dX5_setBoard_9 : decode cX5_setBoard 9 = .ok (.invokestatic 44, 3) := by decide +kernel
theorem dX5_setBoard_12 : decode cX5_setBoard 12 = .ok (.ifCond .eq 13, 3) := by decide +kernel
theorem dX5_setBoard_15 : decode cX5_setBoard 15 = .ok (.iload_n 2, 1) := by decide +kernel
theorem dX5_setBoard_16 : decode cX5_setBoard 16 = .ok (.iconst 3, 1) := by decide +kernel
theorem dX5_setBoard_17 : decode cX5_setBoard 17 = .ok (.bipush 10, 2) := by decide +kernel
theorem dX5_setBoard_19 : decode cX5_setBoard 19 = .ok (.invokestatic 44, 3) := by decide +kernel
theorem dX5_setBoard_22 : decode cX5_setBoard 22 = .ok (.ifCond .ne 9, 3) := by decide +kernel
theorem dX5_setBoard_25 : decode cX5_setBoard 25 = .ok (.aload_n 0, 1) := by decide +kernel
theorem dX5_setBoard_26 : decode cX5_setBoard 26 = .ok (.iconst 1, 1) := by decide +kernel
theorem dX5_setBoard_27 : decode cX5_setBoard 27 = .ok (.invokevirtual 74, 3) := by decide +kernel
theorem dX5_setBoard_30 : decode cX5_setBoard 30 = .ok (.ireturn, 1) := by decide +kernel
theorem dX5_setBoard_31 : decode cX5_setBoard 31 = .ok (.aload_n 0, 1) := by decide +kernel
theorem dX5_setBoard_32 : decode cX5_setBoard 32 = .ok (.iload_n 1, 1) := by decide +kernel
theorem dX5_setBoard_33 : decode cX5_setBoard 33 = .ok (.putfield 7, 3) := by decide +kernel
theorem dX5_setBoard_36 : decode cX5_setBoard 36 = .ok (.aload_n 0, 1) := by decide +kernel
theorem dX5_setBoard_37 : decode cX5_setBoard 37 = .ok (.iload_n 2, 1) := by decide +kernel
theorem dX5_setBoard_38 : decode cX5_setBoard 38 = .ok (.putfield 13, 3) := by decide +kernel
theorem dX5_setBoard_41 : decode cX5_setBoard 41 = .ok (.aload_n 0, 1) := by decide +kernel
theorem dX5_setBoard_42 : decode cX5_setBoard 42 = .ok (.iconst 0, 1) := by decide +kernel
theorem dX5_setBoard_43 : decode cX5_setBoard 43 = .ok (.putfield 65, 3) := by decide +kernel
theorem dX5_setBoard_46 : decode cX5_setBoard 46 = .ok (.iconst 0, 1) := by decide +kernel
theorem dX5_setBoard_47 : decode cX5_setBoard 47 = .ok (.istore_n 3, 1) := by decide +kernel
theorem dX5_setBoard_48 : decode cX5_setBoard 48 = .ok (.iload_n 3, 1) := by decide +kernel
theorem dX5_setBoard_49 : decode cX5_setBoard 49 = .ok (.sipush 144, 3) := by decide +kernel
theorem dX5_setBoard_52 : decode cX5_setBoard 52 = .ok (.if_icmp .ge 16, 3) := by decide +kernel
theorem dX5_setBoard_55 : decode cX5_setBoard 55 = .ok (.aload_n 0, 1) := by decide +kernel
theorem dX5_setBoard_56 : decode cX5_setBoard 56 = .ok (.getfield 16, 3) := by decide +kernel
theorem dX5_setBoard_59 : decode cX5_setBoard 59 = .ok (.iload_n 3, 1) := by decide +kernel
theorem dX5_setBoard_60 : decode cX5_setBoard 60 = .ok (.iconst 0, 1) := by decide +kernel
theorem dX5_setBoard_61 : decode cX5_setBoard 61 = .ok (.iastore, 1) := by decide +kernel
theorem dX5_setBoard_62 : decode cX5_setBoard 62 = .ok (.iinc 3 1, 3) := by decide +kernel
theorem dX5_setBoard_65 : decode cX5_setBoard 65 = .ok (.goto (-17), 3) := by decide +kernel
theorem dX5_setBoard_68 : decode cX5_setBoard 68 = .ok (.iload_n 1, 1) := by decide +kernel
theorem dX5_setBoard_69 : decode cX5_setBoard 69 = .ok (.iload_n 2, 1) := by decide +kernel
theorem dX5_setBoard_70 : decode cX5_setBoard 70 = .ok (.imul, 1) := by decide +kernel
theorem dX5_setBoard_71 : decode cX5_setBoard 71 = .ok (.ireturn, 1) := by decide +kernel
set_option maxRecDepth 20000 in
theorem ggX5_set_X5_isCell : GoodIn wsX5_set wsX5_isCell := goodIn_r _ [7, 8, 9, 10, 11, 6, 12, 20, 21, 22, 23, 24, 25, 26, 27, 28, 29, 30, 31, 32, 33] (by decide +kernel) (by decide +kernel)
set_option maxRecDepth 20000 in
theorem gX5_set_X5_isCell : GoodIn wsX5_set (wsV RX5 77 RX5 yX5_isCell wsX5_isCell) := goodIn_app (goodIn_of _ (by decide +kernel)) ggX5_set_X5_isCell
set_option maxRecDepth 20000 in
theorem ggX5_set_X5_fail : GoodIn wsX5_set wsX5_fail := goodIn_r _ [16, 1, 20, 21, 22, 23, 24, 25, 26, 27, 28, 29, 30, 31, 32, 33] (by decide +kernel) (by decide +kernel)
set_option maxRecDepth 20000 in
theorem gX5_set_X5_fail : GoodIn wsX5_set (wsV RX5 74 RX5 yX5_fail wsX5_fail) := goodIn_app (goodIn_of _ (by decide +kernel)) ggX5_set_X5_fail
set_option maxRecDepth 20000 in
theorem ggX5_set_X5_isIn : GoodIn wsX5_set wsX5_isIn := goodIn_r _ [12] (by decide +kernel) (by decide +kernel)
set_option maxRecDepth 20000 in
theorem gX5_set_X5_isIn : GoodIn wsX5_set (va_wsS RX5 44 yX5_isIn wsX5_isIn) := goodIn_app (goodIn_of _ (by decide +kernel)) ggX5_set_X5_isIn
set_option maxRecDepth 20000 in
theorem ggX5_set_X5_at : GoodIn wsX5_set wsX5_at := goodIn_r _ [19] (by decide +kernel) (by decide +kernel)
set_option maxRecDepth 20000 in
theorem gX5_set_X5_at : GoodIn wsX5_set (va_wsS RX5 48 yX5_at wsX5_at) := goodIn_app (goodIn_of _ (by decide +kernel)) ggX5_set_X5_at
theorem dX5_set_0 : decode cX5_set 0 = .ok (.aload_n 0, 1) := by decide +kernel
theorem dX5_set_1 : decode cX5_set 1 = .ok (.iconst 0, 1) := by decide +kernel
theorem dX5_set_2 : decode cX5_set 2 = .ok (.putfield 41, 3) := by decide +kernel
theorem dX5_set_5 : decode cX5_set 5 = .ok (.aload_n 0, 1) := by decide +kernel
theorem dX5_set_6 : decode cX5_set 6 = .ok (.iload_n 1, 1) := by decide +kernel
theorem dX5_set_7 : decode cX5_set 7 = .ok (.iload_n 2, 1) := by decide +kernel
theorem dX5_set_8 : decode cX5_set 8 = .ok (.invokevirtual 77, 3) := by decide +kernel
theorem dX5_set_11 : decode cX5_set 11 = .ok (.ifCond .ne 9, 3) := by decide +kernel
theorem dX5_set_14 : decode cX5_set 14 = .ok (.aload_n 0, 1) := by decide +kernel
theorem dX5_set_15 : decode cX5_set 15 = .ok (.iconst 1, 1) := by decide +kernel
theorem dX5_set_16 : decode cX5_set 16 = .ok (.invokevirtual 74, 3) := by decide +kernel
theorem dX5_set_19 : decode cX5_set 19 = .ok (.ireturn, 1) := by decide +kernel
theorem dX5_set_20 : decode cX5_set 20 = .ok (.iload_n 3, 1) := by decide +kernel
theorem dX5_set_21 : decode cX5_set 21 = .ok (.iconst 0, 1) := by decide +kernel
theorem dX5_set_22 : decode cX5_set 22 = .ok (.iconst 3, 1) := by decide +kernel
theorem dX5_set_23 : decode cX5_set 23 = .ok (.invokestatic 44, 3) := by decide +kernel
theorem dX5_set_26 : decode cX5_set 26 = .ok (.ifCond .ne 9, 3) := by decide +kernel
theorem dX5_set_29 : decode cX5_set 29 = .ok (.aload_n 0, 1) := by decide +kernel
theorem dX5_set_30 : decode cX5_set 30 = .ok (.iconst 2, 1) := by decide +kernel
theorem dX5_set_31 : decode cX5_set 31 = .ok (.invokevirtual 74, 3) := by decide +kernel
theorem dX5_set_34 : decode cX5_set 34 = .ok (.ireturn, 1) := by decide +kernel
theorem dX5_set_35 : decode cX5_set 35 = .ok (.aload_n 0, 1) := by decide +kernel
theorem dX5_set_36 : decode cX5_set 36 = .ok (.getfield 16, 3) := by decide +kernel
theorem dX5_set_39 : decode cX5_set 39 = .ok (.iload_n 1, 1) := by decide +kernel
theorem dX5_set_40 : decode cX5_set 40 = .ok (.iload_n 2, 1) := by decide +kernel
theorem dX5_set_41 : decode cX5_set 41 = .ok (.invokestatic 48, 3) := by decide +kernel
theorem dX5_set_44 : decode cX5_set 44 = .ok (.iaload, 1) := by decide +kernel
theorem dX5_set_45 : decode cX5_set 45 = .ok (.istore 4, 2) := by decide +kernel
theorem dX5_set_47 : decode cX5_set 47 = .ok (.aload_n 0, 1) := by decide +kernel
theorem dX5_set_48 : decode cX5_set 48 = .ok (.getfield 16, 3) := by decide +kernel
theorem dX5_set_51 : decode cX5_set 51 = .ok (.iload_n 1, 1) := by decide +kernel
theorem dX5_set_52 : decode cX5_set 52 = .ok (.iload_n 2, 1) := by decide +kernel
theorem dX5_set_53 : decode cX5_set 53 = .ok (.invokestatic 48, 3) := by decide +kernel
theorem dX5_set_56 : decode cX5_set 56 = .ok (.iload_n 3, 1) := by decide +kernel
theorem dX5_set_57 : decode cX5_set 57 = .ok (.iastore, 1) := by decide +kernel
theorem dX5_set_58 : decode cX5_set 58 = .ok (.iload 4, 2) := by decide +kernel
theorem dX5_set_60 : decode cX5_set 60 = .ok (.ireturn, 1) := by decide +kernel
theorem dX5_lay_0 : decode cX5_lay 0 = .ok (.aload_n 0, 1) := by decide +kernel
theorem dX5_lay_1 : decode cX5_lay 1 = .ok (.getfield 16, 3) := by decide +kernel
theorem dX5_lay_4 : decode cX5_lay 4 = .ok (.iload_n 1, 1) := by decide +kernel
theorem dX5_lay_5 : decode cX5_lay 5 = .ok (.iaload, 1) := by decide +kernel
theorem dX5_lay_6 : decode cX5_lay 6 = .ok (.ifCond .eq 5, 3) := by decide +kernel
theorem dX5_lay_9 : decode cX5_lay 9 = .ok (.iconst 0, 1) := by decide +kernel
theorem dX5_lay_10 : decode cX5_lay 10 = .ok (.ireturn, 1) := by decide +kernel
theorem dX5_lay_11 : decode cX5_lay 11 = .ok (.aload_n 0, 1) := by decide +kernel
theorem dX5_lay_12 : decode cX5_lay 12 = .ok (.getfield 16, 3) := by decide +kernel
theorem dX5_lay_15 : decode cX5_lay 15 = .ok (.iload_n 1, 1) := by decide +kernel
theorem dX5_lay_16 : decode cX5_lay 16 = .ok (.iconst 1, 1) := by decide +kernel
theorem dX5_lay_17 : decode cX5_lay 17 = .ok (.iastore, 1) := by decide +kernel
theorem dX5_lay_18 : decode cX5_lay 18 = .ok (.iconst 1, 1) := by decide +kernel
theorem dX5_lay_19 : decode cX5_lay 19 = .ok (.ireturn, 1) := by decide +kernel
set_option maxRecDepth 20000 in
theorem ggX5_line_X5_isCell : GoodIn wsX5_line wsX5_isCell := goodIn_r _ [10, 11, 12, 13, 14, 9, 15, 32, 33, 34, 35, 36, 37, 38, 39, 40, 41, 42, 43, 44, 45] (by decide +kernel) (by decide +kernel)
set_option maxRecDepth 20000 in
theorem gX5_line_X5_isCell : GoodIn wsX5_line (wsV RX5 77 RX5 yX5_isCell wsX5_isCell) := goodIn_app (goodIn_of _ (by decide +kernel)) ggX5_line_X5_isCell
set_option maxRecDepth 20000 in
theorem ggX5_line_X5_fail : GoodIn wsX5_line wsX5_fail := goodIn_r _ [19, 1, 32, 33, 34, 35, 36, 37, 38, 39, 40, 41, 42, 43, 44, 45] (by decide +kernel) (by decide +kernel)
set_option maxRecDepth 20000 in
theorem gX5_line_X5_fail : GoodIn wsX5_line (wsV RX5 74 RX5 yX5_fail wsX5_fail) := goodIn_app (goodIn_of _ (by decide +kernel)) ggX5_line_X5_fail
set_option maxRecDepth 20000 in
theorem ggX5_line_J6_signum_0f7a4 : GoodIn wsX5_line wsJ6_signum_0f7a4 := goodIn_r _ [23] (by decide +kernel) (by decide +kernel)
set_option maxRecDepth 20000 in
theorem gX5_line_J6_signum_0f7a4 : GoodIn wsX5_line (va_wsS RX5 86 yJ6_signum_0f7a4 wsJ6_signum_0f7a4) := goodIn_app (goodIn_of _ (by decide +kernel)) ggX5_line_J6_signum_0f7a4
set_option maxRecDepth 20000 in
theorem ggX5_line_X5_at : GoodIn wsX5_line wsX5_at := goodIn_r _ [26] (by decide +kernel) (by decide +kernel)
set_option maxRecDepth 20000 in
theorem gX5_line_X5_at : GoodIn wsX5_line (va_wsS RX5 48 yX5_at wsX5_at) := goodIn_app (goodIn_of _ (by decide +kernel)) ggX5_line_X5_at
set_option maxRecDepth 20000 in
theorem ggX5_line_X5_lay : GoodIn wsX5_line wsX5_lay := goodIn_r _ [30, 31, 32, 33, 34, 35, 36, 37, 38, 39, 40, 41, 42, 43, 44, 45] (by decide +kernel) (by decide +kernel)
set_option maxRecDepth 20000 in
theorem gX5_line_X5_lay : GoodIn wsX5_line (wsV RX5 91 RX5 yX5_lay wsX5_lay) := goodIn_app (goodIn_of _ (by decide +kernel)) ggX5_line_X5_lay
theorem dX5_line_0 : decode cX5_line 0 = .ok (.aload_n 0, 1) := by decide +kernel
theorem dX5_line_1 : decode cX5_line 1 = .ok (.iconst 0, 1) := by decide +kernel
theorem dX5_line_2 : decode cX5_line 2 = .ok (.putfield 41, 3) := by decide +kernel
theorem dX5_line_5 : decode cX5_line 5 = .ok (.aload_n 0, 1) := by decide +kernel
theorem dX5_line_6 : decode cX5_line 6 = .ok (.iload_n 1, 1) := by decide +kernel
theorem dX5_line_7 : decode cX5_line 7 = .ok (.iload_n 2, 1) := by decide +kernel
theorem dX5_line_8 : decode cX5_line 8 = .ok (.invokevirtual 77, 3) := by decide +kernel
theorem dX5_line_11 : decode cX5_line 11 = .ok (.ifCond .eq 13, 3) := by decide +kernel
theorem dX5_line_14 : decode cX5_line 14 = .ok (.aload_n 0, 1) := by decide +kernel
theorem dX5_line_15 : decode cX5_line 15 = .ok (.iload_n 3, 1) := by decide +kernel
theorem dX5_line_16 : decode cX5_line 16 = .ok (.iload 4, 2) := by decide +kernel
theorem dX5_line_18 : decode cX5_line 18 = .ok (.invokevirtual 77, 3) := by decide +kernel
theorem dX5_line_21 : decode cX5_line 21 = .ok (.ifCond .ne 9, 3) := by decide +kernel
theorem dX5_line_24 : decode cX5_line 24 = .ok (.aload_n 0, 1) := by decide +kernel
theorem dX5_line_25 : decode cX5_line 25 = .ok (.iconst 1, 1) := by decide +kernel
theorem dX5_line_26 : decode cX5_line 26 = .ok (.invokevirtual 74, 3) := by decide +kernel
theorem dX5_line_29 : decode cX5_line 29 = .ok (.ireturn, 1) := by decide +kernel
theorem dX5_line_30 : decode cX5_line 30 = .ok (.iload_n 3, 1) := by decide +kernel
theorem dX5_line_31 : decode cX5_line 31 = .ok (.iload_n 1, 1) := by decide +kernel
theorem dX5_line_32 : decode cX5_line 32 = .ok (.isub, 1) := by decide +kernel
theorem dX5_line_33 : decode cX5_line 33 = .ok (.istore 5, 2) := by decide +kernel
theorem dX5_line_35 : decode cX5_line 35 = .ok (.iload 4, 2) := by decide +kernel
theorem dX5_line_37 : decode cX5_line 37 = .ok (.iload_n 2, 1) := by decide +kernel
theorem dX5_line_38 : decode cX5_line 38 = .ok (.isub, 1) := by decide +kernel
theorem dX5_line_39 : decode cX5_line 39 = .ok (.istore 6, 2) := by decide +kernel
theorem dX5_line_41 : decode cX5_line 41 = .ok (.iload 5, 2) := by decide +kernel
theorem dX5_line_43 : decode cX5_line 43 = .ok (.ifCond .eq 27, 3) := by decide +kernel
theorem dX5_line_46 : decode cX5_line 46 = .ok (.iload 6, 2) := by decide +kernel
theorem dX5_line_48 : decode cX5_line 48 = .ok (.ifCond .eq 22, 3) := by decide +kernel
theorem dX5_line_51 : decode cX5_line 51 = .ok (.iload 5, 2) := by decide +kernel
theorem dX5_line_53 : decode cX5_line 53 = .ok (.invokestatic 81, 3) := by decide +kernel
theorem dX5_line_56 : decode cX5_line 56 = .ok (.iload 6, 2) := by decide +kernel
theorem dX5_line_58 : decode cX5_line 58 = .ok (.invokestatic 81, 3) := by decide +kernel
theorem dX5_line_61 : decode cX5_line 61 = .ok (.if_icmp .eq 9, 3) := by decide +kernel
theorem dX5_line_64 : decode cX5_line 64 = .ok (.aload_n 0, 1) := by decide +kernel
theorem dX5_line_65 : decode cX5_line 65 = .ok (.iconst 2, 1) := by decide +kernel
theorem dX5_line_66 : decode cX5_line 66 = .ok (.invokevirtual 74, 3) := by decide +kernel
theorem dX5_line_69 : decode cX5_line 69 = .ok (.ireturn, 1) := by decide +kernel
theorem dX5_line_70 : decode cX5_line 70 = .ok (.iload 5, 2) := by decide +kernel
theorem dX5_line_72 : decode cX5_line 72 = .ok (.invokestatic 86, 3) := by decide +kernel
theorem dX5_line_75 : decode cX5_line 75 = .ok (.bipush 12, 2) := by decide +kernel
theorem dX5_line_77 : decode cX5_line 77 = .ok (.iload 6, 2) := by decide +kernel
theorem dX5_line_79 : decode cX5_line 79 = .ok (.invokestatic 86, 3) := by decide +kernel
theorem dX5_line_82 : decode cX5_line 82 = .ok (.imul, 1) := by decide +kernel
theorem dX5_line_83 : decode cX5_line 83 = .ok (.iadd, 1) := by decide +kernel
theorem dX5_line_84 : decode cX5_line 84 = .ok (.istore 7, 2) := by decide +kernel
theorem dX5_line_86 : decode cX5_line 86 = .ok (.aload_n 0, 1) := by decide +kernel
theorem dX5_line_87 : decode cX5_line 87 = .ok (.iload_n 1, 1) := by decide +kernel
theorem dX5_line_88 : decode cX5_line 88 = .ok (.iload_n 2, 1) := by decide +kernel
theorem dX5_line_89 : decode cX5_line 89 = .ok (.invokestatic 48, 3) := by decide +kernel
theorem dX5_line_92 : decode cX5_line 92 = .ok (.invokevirtual 91, 3) := by decide +kernel
theorem dX5_line_95 : decode cX5_line 95 = .ok (.istore 8, 2) := by decide +kernel
theorem dX5_line_97 : decode cX5_line 97 = .ok (.iload_n 1, 1) := by decide +kernel
theorem dX5_line_98 : decode cX5_line 98 = .ok (.iload_n 2, 1) := by decide +kernel
theorem dX5_line_99 : decode cX5_line 99 = .ok (.invokestatic 48, 3) := by decide +kernel
theorem dX5_line_102 : decode cX5_line 102 = .ok (.istore 9, 2) := by decide +kernel
theorem dX5_line_104 : decode cX5_line 104 = .ok (.iload 9, 2) := by decide +kernel
theorem dX5_line_106 : decode cX5_line 106 = .ok (.iload_n 3, 1) := by decide +kernel
theorem dX5_line_107 : decode cX5_line 107 = .ok (.iload 4, 2) := by decide +kernel
theorem dX5_line_109 : decode cX5_line 109 = .ok (.invokestatic 48, 3) := by decide +kernel
theorem dX5_line_112 : decode cX5_line 112 = .ok (.if_icmp .eq 24, 3) := by decide +kernel
theorem dX5_line_115 : decode cX5_line 115 = .ok (.iload 9, 2) := by decide +kernel
theorem dX5_line_117 : decode cX5_line 117 = .ok (.iload 7, 2) := by decide +kernel
theorem dX5_line_119 : decode cX5_line 119 = .ok (.iadd, 1) := by decide +kernel
theorem dX5_line_120 : decode cX5_line 120 = .ok (.istore 9, 2) := by decide +kernel
theorem dX5_line_122 : decode cX5_line 122 = .ok (.iload 8, 2) := by decide +kernel
theorem dX5_line_124 : decode cX5_line 124 = .ok (.aload_n 0, 1) := by decide +kernel
theorem dX5_line_125 : decode cX5_line 125 = .ok (.iload 9, 2) := by decide +kernel
theorem dX5_line_127 : decode cX5_line 127 = .ok (.invokevirtual 91, 3) := by decide +kernel
theorem dX5_line_130 : decode cX5_line 130 = .ok (.iadd, 1) := by decide +kernel
theorem dX5_line_131 : decode cX5_line 131 = .ok (.istore 8, 2) := by decide +kernel
theorem dX5_line_133 : decode cX5_line 133 = .ok (.goto (-29), 3) := by decide +kernel
theorem dX5_line_136 : decode cX5_line 136 = .ok (.iload 8, 2) := by decide +kernel
theorem dX5_line_138 : decode cX5_line 138 = .ok (.ireturn, 1) := by decide +kernel
set_option maxRecDepth 20000 in
theorem ggX5_ring_X5_fail : GoodIn wsX5_ring wsX5_fail := goodIn_r _ [8, 1, 24, 25, 26, 27, 28, 29, 30, 31, 32, 33, 34, 35, 36, 37] (by decide +kernel) (by decide +kernel)
set_option maxRecDepth 20000 in
theorem gX5_ring_X5_fail : GoodIn wsX5_ring (wsV RX5 74 RX5 yX5_fail wsX5_fail) := goodIn_app (goodIn_of _ (by decide +kernel)) ggX5_ring_X5_fail
set_option maxRecDepth 20000 in
theorem ggX5_ring_X5_isCell : GoodIn wsX5_ring wsX5_isCell := goodIn_r _ [12, 2, 3, 13, 14, 7, 15, 24, 25, 26, 27, 28, 29, 30, 31, 32, 33, 34, 35, 36, 37] (by decide +kernel) (by decide +kernel)
set_option maxRecDepth 20000 in
theorem gX5_ring_X5_isCell : GoodIn wsX5_ring (wsV RX5 77 RX5 yX5_isCell wsX5_isCell) := goodIn_app (goodIn_of _ (by decide +kernel)) ggX5_ring_X5_isCell
set_option maxRecDepth 20000 in
theorem ggX5_ring_X5_at : GoodIn wsX5_ring wsX5_at := goodIn_r _ [18] (by decide +kernel) (by decide +kernel)
set_option maxRecDepth 20000 in
theorem gX5_ring_X5_at : GoodIn wsX5_ring (va_wsS RX5 48 yX5_at wsX5_at) := goodIn_app (goodIn_of _ (by decide +kernel)) ggX5_ring_X5_at
set_option maxRecDepth 20000 in
theorem ggX5_ring_X5_lay : GoodIn wsX5_ring wsX5_lay := goodIn_r _ [22, 23, 24, 25, 26, 27, 28, 29, 30, 31, 32, 33, 34, 35, 36, 37] (by decide +kernel) (by decide +kernel)
set_option maxRecDepth 20000 in
theorem gX5_ring_X5_lay : GoodIn wsX5_ring (wsV RX5 91 RX5 yX5_lay wsX5_lay) := goodIn_app (goodIn_of _ (by decide +kernel)) ggX5_ring_X5_lay
theorem dX5_ring_0 : decode cX5_ring 0 = .ok (.aload_n 0, 1) := by decide +kernel
theorem dX5_ring_1 : decode cX5_ring 1 = .ok (.iconst 0, 1) := by decide +kernel
theorem dX5_ring_2 : decode cX5_ring 2 = .ok (.putfield 41, 3) := by decide +kernel
theorem dX5_ring_5 : decode cX5_ring 5 = .ok (.iload_n 3, 1) := by decide +kernel
theorem dX5_ring_6 : decode cX5_ring 6 = .ok (.iconst 3, 1) := by decide +kernel
theorem dX5_ring_7 : decode cX5_ring 7 = .ok (.if_icmp .lt 9, 3) := by decide +kernel
theorem dX5_ring_10 : decode cX5_ring 10 = .ok (.iload 4, 2) := by decide +kernel
theorem dX5_ring_12 : decode cX5_ring 12 = .ok (.iconst 3, 1) := by decide +kernel
theorem dX5_ring_13 : decode cX5_ring 13 = .ok (.if_icmp .ge 9, 3) := by decide +kernel
theorem dX5_ring_16 : decode cX5_ring 16 = .ok (.aload_n 0, 1) := by decide +kernel
theorem dX5_ring_17 : decode cX5_ring 17 = .ok (.iconst 1, 1) := by decide +kernel
theorem dX5_ring_18 : decode cX5_ring 18 = .ok (.invokevirtual 74, 3) := by decide +kernel
theorem dX5_ring_21 : decode cX5_ring 21 = .ok (.ireturn, 1) := by decide +kernel
theorem dX5_ring_22 : decode cX5_ring 22 = .ok (.aload_n 0, 1) := by decide +kernel
theorem dX5_ring_23 : decode cX5_ring 23 = .ok (.iload_n 1, 1) := by decide +kernel
theorem dX5_ring_24 : decode cX5_ring 24 = .ok (.iload_n 2, 1) := by decide +kernel
theorem dX5_ring_25 : decode cX5_ring 25 = .ok (.invokevirtual 77, 3) := by decide +kernel
theorem dX5_ring_28 : decode cX5_ring 28 = .ok (.ifCond .eq 24, 3) := by decide +kernel
theorem dX5_ring_31 : decode cX5_ring 31 = .ok (.iload_n 3, 1) := by decide +kernel
theorem dX5_ring_32 : decode cX5_ring 32 = .ok (.aload_n 0, 1) := by decide +kernel
theorem dX5_ring_33 : decode cX5_ring 33 = .ok (.getfield 7, 3) := by decide +kernel
theorem dX5_ring_36 : decode cX5_ring 36 = .ok (.iload_n 1, 1) := by decide +kernel
theorem dX5_ring_37 : decode cX5_ring 37 = .ok (.isub, 1) := by decide +kernel
theorem dX5_ring_38 : decode cX5_ring 38 = .ok (.if_icmp .gt 14, 3) := by decide +kernel
theorem dX5_ring_41 : decode cX5_ring 41 = .ok (.iload 4, 2) := by decide +kernel
theorem dX5_ring_43 : decode cX5_ring 43 = .ok (.aload_n 0, 1) := by decide +kernel
theorem dX5_ring_44 : decode cX5_ring 44 = .ok (.getfield 13, 3) := by decide +kernel
theorem dX5_ring_47 : decode cX5_ring 47 = .ok (.iload_n 2, 1) := by decide +kernel
theorem dX5_ring_48 : decode cX5_ring 48 = .ok (.isub, 1) := by decide +kernel
theorem dX5_ring_49 : decode cX5_ring 49 = .ok (.if_icmp .le 9, 3) := by decide +kernel
theorem dX5_ring_52 : decode cX5_ring 52 = .ok (.aload_n 0, 1) := by decide +kernel
theorem dX5_ring_53 : decode cX5_ring 53 = .ok (.iconst 2, 1) := by decide +kernel
theorem dX5_ring_54 : decode cX5_ring 54 = .ok (.invokevirtual 74, 3) := by decide +kernel
theorem dX5_ring_57 : decode cX5_ring 57 = .ok (.ireturn, 1) := by decide +kernel
theorem dX5_ring_58 : decode cX5_ring 58 = .ok (.iconst 0, 1) := by decide +kernel
theorem dX5_ring_59 : decode cX5_ring 59 = .ok (.istore 5, 2) := by decide +kernel
theorem dX5_ring_61 : decode cX5_ring 61 = .ok (.iconst 1, 1) := by decide +kernel
theorem dX5_ring_62 : decode cX5_ring 62 = .ok (.istore 6, 2) := by decide +kernel
theorem dX5_ring_64 : decode cX5_ring 64 = .ok (.iload 6, 2) := by decide +kernel
theorem dX5_ring_66 : decode cX5_ring 66 = .ok (.iload_n 3, 1) := by decide +kernel
theorem dX5_ring_67 : decode cX5_ring 67 = .ok (.iconst 1, 1) := by decide +kernel
theorem dX5_ring_68 : decode cX5_ring 68 = .ok (.isub, 1) := by decide +kernel
theorem dX5_ring_69 : decode cX5_ring 69 = .ok (.if_icmp .ge 44, 3) := by decide +kernel
theorem dX5_ring_72 : decode cX5_ring 72 = .ok (.iload 5, 2) := by decide +kernel
theorem dX5_ring_74 : decode cX5_ring 74 = .ok (.aload_n 0, 1) := by decide +kernel
theorem dX5_ring_75 : decode cX5_ring 75 = .ok (.iload_n 1, 1) := by decide +kernel
theorem dX5_ring_76 : decode cX5_ring 76 = .ok (.iload 6, 2) := by decide +kernel
theorem dX5_ring_78 : decode cX5_ring 78 = .ok (.iadd, 1) := by decide +kernel
theorem dX5_ring_79 : decode cX5_ring 79 = .ok (.iload_n 2, 1) := by decide +kernel
theorem dX5_ring_80 : decode cX5_ring 80 = .ok (.invokestatic 48, 3) := by decide +kernel
theorem dX5_ring_83 : decode cX5_ring 83 = .ok (.invokevirtual 91, 3) := by decide +kernel
theorem dX5_ring_86 : decode cX5_ring 86 = .ok (.aload_n 0, 1) := by decide +kernel
theorem dX5_ring_87 : decode cX5_ring 87 = .ok (.iload_n 1, 1) := by decide +kernel
theorem dX5_ring_88 : decode cX5_ring 88 = .ok (.iload 6, 2) := by decide +kernel
theorem dX5_ring_90 : decode cX5_ring 90 = .ok (.iadd, 1) := by decide +kernel
theorem dX5_ring_91 : decode cX5_ring 91 = .ok (.iload_n 2, 1) := by decide +kernel
theorem dX5_ring_92 : decode cX5_ring 92 = .ok (.iload 4, 2) := by decide +kernel
theorem dX5_ring_94 : decode cX5_ring 94 = .ok (.iadd, 1) := by decide +kernel
theorem dX5_ring_95 : decode cX5_ring 95 = .ok (.iconst 1, 1) := by decide +kernel
theorem dX5_ring_96 : decode cX5_ring 96 = .ok (.isub, 1) := by decide +kernel
theorem dX5_ring_97 : decode cX5_ring 97 = .ok (.invokestatic 48, 3) := by decide +kernel
theorem dX5_ring_100 : decode cX5_ring 100 = .ok (.invokevirtual 91, 3) := by decide +kernel
theorem dX5_ring_103 : decode cX5_ring 103 = .ok (.iadd, 1) := by decide +kernel
theorem dX5_ring_104 : decode cX5_ring 104 = .ok (.iadd, 1) := by decide +kernel
theorem dX5_ring_105 : decode cX5_ring 105 = .ok (.istore 5, 2) := by decide +kernel
theorem dX5_ring_107 : decode cX5_ring 107 = .ok (.iinc 6 1, 3) := by decide +kernel
theorem dX5_ring_110 : decode cX5_ring 110 = .ok (.goto (-46), 3) := by decide +kernel
theorem dX5_ring_113 : decode cX5_ring 113 = .ok (.iconst 1, 1) := by decide +kernel
theorem dX5_ring_114 : decode cX5_ring 114 = .ok (.istore 6, 2) := by decide +kernel
theorem dX5_ring_116 : decode cX5_ring 116 = .ok (.iload 6, 2) := by decide +kernel
theorem dX5_ring_118 : decode cX5_ring 118 = .ok (.iload 4, 2) := by decide +kernel
theorem dX5_ring_120 : decode cX5_ring 120 = .ok (.iconst 1, 1) := by decide +kernel
theorem dX5_ring_121 : decode cX5_ring 121 = .ok (.isub, 1) := by decide +kernel
theorem dX5_ring_122 : decode cX5_ring 122 = .ok (.if_icmp .ge 43, 3) := by decide +kernel
theorem dX5_ring_125 : decode cX5_ring 125 = .ok (.iload 5, 2) := by decide +kernel
theorem dX5_ring_127 : decode cX5_ring 127 = .ok (.aload_n 0, 1) := by decide +kernel
theorem dX5_ring_128 : decode cX5_ring 128 = .ok (.iload_n 1, 1) := by decide +kernel
theorem dX5_ring_129 : decode cX5_ring 129 = .ok (.iload_n 2, 1) := by decide +kernel
theorem dX5_ring_130 : decode cX5_ring 130 = .ok (.iload 6, 2) := by decide +kernel
theorem dX5_ring_132 : decode cX5_ring 132 = .ok (.iadd, 1) := by decide +kernel
theorem dX5_ring_133 : decode cX5_ring 133 = .ok (.invokestatic 48, 3) := by decide +kernel
theorem dX5_ring_136 : decode cX5_ring 136 = .ok (.invokevirtual 91, 3) := by decide +kernel
theorem dX5_ring_139 : decode cX5_ring 139 = .ok (.aload_n 0, 1) := by decide +kernel
theorem dX5_ring_140 : decode cX5_ring 140 = .ok (.iload_n 1, 1) := by decide +kernel
theorem dX5_ring_141 : decode cX5_ring 141 = .ok (.iload_n 3, 1) := by decide +kernel
theorem dX5_ring_142 : decode cX5_ring 142 = .ok (.iadd, 1) := by decide +kernel
theorem dX5_ring_143 : decode cX5_ring 143 = .ok (.iconst 1, 1) := by decide +kernel
theorem dX5_ring_144 : decode cX5_ring 144 = .ok (.isub, 1) := by decide +kernel
theorem dX5_ring_145 : decode cX5_ring 145 = .ok (.iload_n 2, 1) := by decide +kernel
theorem dX5_ring_146 : decode cX5_ring 146 = .ok (.iload 6, 2) := by decide +kernel
theorem dX5_ring_148 : decode cX5_ring 148 = .ok (.iadd, 1) := by decide +kernel
theorem dX5_ring_149 : decode cX5_ring 149 = .ok (.invokestatic 48, 3) := by decide +kernel
theorem dX5_ring_152 : decode cX5_ring 152 = .ok (.invokevirtual 91, 3) := by decide +kernel
theorem dX5_ring_155 : decode cX5_ring 155 = .ok (.iadd, 1) := by decide +kernel
theorem dX5_ring_156 : decode cX5_ring 156 = .ok (.iadd, 1) := by decide +kernel
theorem dX5_ring_157 : decode cX5_ring 157 = .ok (.istore 5, 2) := by decide +kernel
theorem dX5_ring_159 : decode cX5_ring 159 = .ok (.iinc 6 1, 3) := by decide +kernel
theorem dX5_ring_162 : decode cX5_ring 162 = .ok (.goto (-46), 3) := by decide +kernel
theorem dX5_ring_165 : decode cX5_ring 165 = .ok (.iload 5, 2) := by decide +kernel
theorem dX5_ring_167 : decode cX5_ring 167 = .ok (.ireturn, 1) := by decide +kernel
set_option maxRecDepth 20000 in
theorem ggX5_stamp_X5_isIn : GoodIn wsX5_stamp wsX5_isIn := goodIn_r _ [9] (by decide +kernel) (by decide +kernel)
set_option maxRecDepth 20000 in
theorem gX5_stamp_X5_isIn : GoodIn wsX5_stamp (va_wsS RX5 44 yX5_isIn wsX5_isIn) := goodIn_app (goodIn_of _ (by decide +kernel)) ggX5_stamp_X5_isIn
set_option maxRecDepth 20000 in
theorem ggX5_stamp_X5_isCell : GoodIn wsX5_stamp wsX5_isCell := goodIn_r _ [13, 2, 3, 6, 7, 8, 9, 21, 22, 23, 24, 25, 26, 27, 28, 29, 30, 31, 32, 33, 34] (by decide +kernel) (by decide +kernel)
set_option maxRecDepth 20000 in
theorem gX5_stamp_X5_isCell : GoodIn wsX5_stamp (wsV RX5 77 RX5 yX5_isCell wsX5_isCell) := goodIn_app (goodIn_of _ (by decide +kernel)) ggX5_stamp_X5_isCell
set_option maxRecDepth 20000 in
theorem ggX5_stamp_X5_fail : GoodIn wsX5_stamp wsX5_fail := goodIn_r _ [17, 1, 21, 22, 23, 24, 25, 26, 27, 28, 29, 30, 31, 32, 33, 34] (by decide +kernel) (by decide +kernel)
set_option maxRecDepth 20000 in
theorem gX5_stamp_X5_fail : GoodIn wsX5_stamp (wsV RX5 74 RX5 yX5_fail wsX5_fail) := goodIn_app (goodIn_of _ (by decide +kernel)) ggX5_stamp_X5_fail
set_option maxRecDepth 20000 in
theorem ggX5_stamp_X5_at : GoodIn wsX5_stamp wsX5_at := goodIn_r _ [20] (by decide +kernel) (by decide +kernel)
set_option maxRecDepth 20000 in
theorem gX5_stamp_X5_at : GoodIn wsX5_stamp (va_wsS RX5 48 yX5_at wsX5_at) := goodIn_app (goodIn_of _ (by decide +kernel)) ggX5_stamp_X5_at
theorem dX5_stamp_0 : decode cX5_stamp 0 = .ok (.aload_n 0, 1) := by decide +kernel
theorem dX5_stamp_1 : decode cX5_stamp 1 = .ok (.iconst 0, 1) := by decide +kernel
theorem dX5_stamp_2 : decode cX5_stamp 2 = .ok (.putfield 41, 3) := by decide +kernel
theorem dX5_stamp_5 : decode cX5_stamp 5 = .ok (.iload_n 1, 1) := by decide +kernel
theorem dX5_stamp_6 : decode cX5_stamp 6 = .ok (.iconst 0, 1) := by decide +kernel
theorem dX5_stamp_7 : decode cX5_stamp 7 = .ok (.iconst 3, 1) := by decide +kernel
theorem dX5_stamp_8 : decode cX5_stamp 8 = .ok (.invokestatic 44, 3) := by decide +kernel
theorem dX5_stamp_11 : decode cX5_stamp 11 = .ok (.ifCond .eq 43, 3) := by decide +kernel
theorem dX5_stamp_14 : decode cX5_stamp 14 = .ok (.iload_n 2, 1) := by decide +kernel
theorem dX5_stamp_15 : decode cX5_stamp 15 = .ok (.iconst 0, 1) := by decide +kernel
theorem dX5_stamp_16 : decode cX5_stamp 16 = .ok (.iconst 3, 1) := by decide +kernel
theorem dX5_stamp_17 : decode cX5_stamp 17 = .ok (.invokestatic 44, 3) := by decide +kernel
theorem dX5_stamp_20 : decode cX5_stamp 20 = .ok (.ifCond .eq 34, 3) := by decide +kernel
theorem dX5_stamp_23 : decode cX5_stamp 23 = .ok (.aload_n 0, 1) := by decide +kernel
theorem dX5_stamp_24 : decode cX5_stamp 24 = .ok (.iload_n 3, 1) := by decide +kernel
theorem dX5_stamp_25 : decode cX5_stamp 25 = .ok (.iload 4, 2) := by decide +kernel
theorem dX5_stamp_27 : decode cX5_stamp 27 = .ok (.invokevirtual 77, 3) := by decide +kernel
theorem dX5_stamp_30 : decode cX5_stamp 30 = .ok (.ifCond .eq 24, 3) := by decide +kernel
theorem dX5_stamp_33 : decode cX5_stamp 33 = .ok (.iload_n 3, 1) := by decide +kernel
theorem dX5_stamp_34 : decode cX5_stamp 34 = .ok (.iconst 2, 1) := by decide +kernel
theorem dX5_stamp_35 : decode cX5_stamp 35 = .ok (.iadd, 1) := by decide +kernel
theorem dX5_stamp_36 : decode cX5_stamp 36 = .ok (.aload_n 0, 1) := by decide +kernel
theorem dX5_stamp_37 : decode cX5_stamp 37 = .ok (.getfield 7, 3) := by decide +kernel
theorem dX5_stamp_40 : decode cX5_stamp 40 = .ok (.if_icmp .ge 14, 3) := by decide +kernel
theorem dX5_stamp_43 : decode cX5_stamp 43 = .ok (.iload 4, 2) := by decide +kernel
theorem dX5_stamp_45 : decode cX5_stamp 45 = .ok (.iconst 2, 1) := by decide +kernel
theorem dX5_stamp_46 : decode cX5_stamp 46 = .ok (.iadd, 1) := by decide +kernel
theorem dX5_stamp_47 : decode cX5_stamp 47 = .ok (.aload_n 0, 1) := by decide +kernel
theorem dX5_stamp_48 : decode cX5_stamp 48 = .ok (.getfield 13, 3) := by decide +kernel
theorem dX5_stamp_51 : decode cX5_stamp 51 = .ok (.if_icmp .lt 9, 3) := by decide +kernel
theorem dX5_stamp_54 : decode cX5_stamp 54 = .ok (.aload_n 0, 1) := by decide +kernel
theorem dX5_stamp_55 : decode cX5_stamp 55 = .ok (.iconst 1, 1) := by decide +kernel
theorem dX5_stamp_56 : decode cX5_stamp 56 = .ok (.invokevirtual 74, 3) := by decide +kernel
theorem dX5_stamp_59 : decode cX5_stamp 59 = .ok (.ireturn, 1) := by decide +kernel
theorem dX5_stamp_60 : decode cX5_stamp 60 = .ok (.iconst 0, 1) := by decide +kernel
theorem dX5_stamp_61 : decode cX5_stamp 61 = .ok (.istore 5, 2) := by decide +kernel
theorem dX5_stamp_63 : decode cX5_stamp 63 = .ok (.getstatic 94, 3) := by decide +kernel
theorem dX5_stamp_66 : decode cX5_stamp 66 = .ok (.iload_n 1, 1) := by decide +kernel
theorem dX5_stamp_67 : decode cX5_stamp 67 = .ok (.aaload, 1) := by decide +kernel
theorem dX5_stamp_68 : decode cX5_stamp 68 = .ok (.astore 6, 2) := by decide +kernel
theorem dX5_stamp_70 : decode cX5_stamp 70 = .ok (.aload 6, 2) := by decide +kernel
theorem dX5_stamp_72 : decode cX5_stamp 72 = .ok (.arraylength, 1) := by decide +kernel
theorem dX5_stamp_73 : decode cX5_stamp 73 = .ok (.istore 7, 2) := by decide +kernel
theorem dX5_stamp_75 : decode cX5_stamp 75 = .ok (.iconst 0, 1) := by decide +kernel
theorem dX5_stamp_76 : decode cX5_stamp 76 = .ok (.istore 8, 2) := by decide +kernel
theorem dX5_stamp_78 : decode cX5_stamp 78 = .ok (.iload 8, 2) := by decide +kernel
theorem dX5_stamp_80 : decode cX5_stamp 80 = .ok (.iload 7, 2) := by decide +kernel
theorem dX5_stamp_82 : decode cX5_stamp 82 = .ok (.if_icmp .ge 71, 3) := by decide +kernel
theorem dX5_stamp_85 : decode cX5_stamp 85 = .ok (.aload 6, 2) := by decide +kernel
theorem dX5_stamp_87 : decode cX5_stamp 87 = .ok (.iload 8, 2) := by decide +kernel
theorem dX5_stamp_89 : decode cX5_stamp 89 = .ok (.iaload, 1) := by decide +kernel
theorem dX5_stamp_90 : decode cX5_stamp 90 = .ok (.istore 9, 2) := by decide +kernel
theorem dX5_stamp_92 : decode cX5_stamp 92 = .ok (.iload 9, 2) := by decide +kernel
theorem dX5_stamp_94 : decode cX5_stamp 94 = .ok (.iconst 3, 1) := by decide +kernel
theorem dX5_stamp_95 : decode cX5_stamp 95 = .ok (.irem, 1) := by decide +kernel
theorem dX5_stamp_96 : decode cX5_stamp 96 = .ok (.istore 10, 2) := by decide +kernel
theorem dX5_stamp_98 : decode cX5_stamp 98 = .ok (.iload 9, 2) := by decide +kernel
theorem dX5_stamp_100 : decode cX5_stamp 100 = .ok (.iconst 3, 1) := by decide +kernel
theorem dX5_stamp_101 : decode cX5_stamp 101 = .ok (.idiv, 1) := by decide +kernel
theorem dX5_stamp_102 : decode cX5_stamp 102 = .ok (.istore 11, 2) := by decide +kernel
theorem dX5_stamp_104 : decode cX5_stamp 104 = .ok (.iconst 0, 1) := by decide +kernel
theorem dX5_stamp_105 : decode cX5_stamp 105 = .ok (.istore 12, 2) := by decide +kernel
theorem dX5_stamp_107 : decode cX5_stamp 107 = .ok (.iload 12, 2) := by decide +kernel
theorem dX5_stamp_109 : decode cX5_stamp 109 = .ok (.iload_n 2, 1) := by decide +kernel
theorem dX5_stamp_110 : decode cX5_stamp 110 = .ok (.if_icmp .ge 23, 3) := by decide +kernel
theorem dX5_stamp_113 : decode cX5_stamp 113 = .ok (.iconst 2, 1) := by decide +kernel
theorem dX5_stamp_114 : decode cX5_stamp 114 = .ok (.iload 11, 2) := by decide +kernel
theorem dX5_stamp_116 : decode cX5_stamp 116 = .ok (.isub, 1) := by decide +kernel
theorem dX5_stamp_117 : decode cX5_stamp 117 = .ok (.istore 13, 2) := by decide +kernel
theorem dX5_stamp_119 : decode cX5_stamp 119 = .ok (.iload 10, 2) := by decide +kernel
theorem dX5_stamp_121 : decode cX5_stamp 121 = .ok (.istore 11, 2) := by decide +kernel
theorem dX5_stamp_123 : decode cX5_stamp 123 = .ok (.iload 13, 2) := by decide +kernel
theorem dX5_stamp_125 : decode cX5_stamp 125 = .ok (.istore 10, 2) := by decide +kernel
theorem dX5_stamp_127 : decode cX5_stamp 127 = .ok (.iinc 12 1, 3) := by decide +kernel
theorem dX5_stamp_130 : decode cX5_stamp 130 = .ok (.goto (-23), 3) := by decide +kernel
theorem dX5_stamp_133 : decode cX5_stamp 133 = .ok (.iload 5, 2) := by decide +kernel
theorem dX5_stamp_135 : decode cX5_stamp 135 = .ok (.iconst 1, 1) := by decide +kernel
theorem dX5_stamp_136 : decode cX5_stamp 136 = .ok (.iconst 3, 1) := by decide +kernel
theorem dX5_stamp_137 : decode cX5_stamp 137 = .ok (.iload 11, 2) := by decide +kernel
theorem dX5_stamp_139 : decode cX5_stamp 139 = .ok (.imul, 1) := by decide +kernel
theorem dX5_stamp_140 : decode cX5_stamp 140 = .ok (.iload 10, 2) := by decide +kernel
theorem dX5_stamp_142 : decode cX5_stamp 142 = .ok (.iadd, 1) := by decide +kernel
theorem dX5_stamp_143 : decode cX5_stamp 143 = .ok (.ishl, 1) := by decide +kernel
theorem dX5_stamp_144 : decode cX5_stamp 144 = .ok (.ior, 1) := by decide +kernel
theorem dX5_stamp_145 : decode cX5_stamp 145 = .ok (.istore 5, 2) := by decide +kernel
theorem dX5_stamp_147 : decode cX5_stamp 147 = .ok (.iinc 8 1, 3) := by decide +kernel
theorem dX5_stamp_150 : decode cX5_stamp 150 = .ok (.goto (-72), 3) := by decide +kernel
theorem dX5_stamp_153 : decode cX5_stamp 153 = .ok (.iconst 0, 1) := by decide +kernel
theorem dX5_stamp_154 : decode cX5_stamp 154 = .ok (.istore 6, 2) := by decide +kernel
theorem dX5_stamp_156 : decode cX5_stamp 156 = .ok (.iconst 0, 1) := by decide +kernel
theorem dX5_stamp_157 : decode cX5_stamp 157 = .ok (.istore 7, 2) := by decide +kernel
theorem dX5_stamp_159 : decode cX5_stamp 159 = .ok (.iload 7, 2) := by decide +kernel
theorem dX5_stamp_161 : decode cX5_stamp 161 = .ok (.bipush 9, 2) := by decide +kernel
theorem dX5_stamp_163 : decode cX5_stamp 163 = .ok (.if_icmp .ge 67, 3) := by decide +kernel
theorem dX5_stamp_166 : decode cX5_stamp 166 = .ok (.iload_n 3, 1) := by decide +kernel
theorem dX5_stamp_167 : decode cX5_stamp 167 = .ok (.iload 7, 2) := by decide +kernel
theorem dX5_stamp_169 : decode cX5_stamp 169 = .ok (.iconst 3, 1) := by decide +kernel
theorem dX5_stamp_170 : decode cX5_stamp 170 = .ok (.irem, 1) := by decide +kernel
theorem dX5_stamp_171 : decode cX5_stamp 171 = .ok (.iadd, 1) := by decide +kernel
theorem dX5_stamp_172 : decode cX5_stamp 172 = .ok (.iload 4, 2) := by decide +kernel
theorem dX5_stamp_174 : decode cX5_stamp 174 = .ok (.iload 7, 2) := by decide +kernel
theorem dX5_stamp_176 : decode cX5_stamp 176 = .ok (.iconst 3, 1) := by decide +kernel
theorem dX5_stamp_177 : decode cX5_stamp 177 = .ok (.idiv, 1) := by decide +kernel
theorem dX5_stamp_178 : decode cX5_stamp 178 = .ok (.iadd, 1) := by decide +kernel
theorem dX5_stamp_179 : decode cX5_stamp 179 = .ok (.invokestatic 48, 3) := by decide +kernel
theorem dX5_stamp_182 : decode cX5_stamp 182 = .ok (.istore 8, 2) := by decide +kernel
theorem dX5_stamp_184 : decode cX5_stamp 184 = .ok (.iload 5, 2) := by decide +kernel
theorem dX5_stamp_186 : decode cX5_stamp 186 = .ok (.iload 7, 2) := by decide +kernel
theorem dX5_stamp_188 : decode cX5_stamp 188 = .ok (.ishr, 1) := by decide +kernel
theorem dX5_stamp_189 : decode cX5_stamp 189 = .ok (.iconst 1, 1) := by decide +kernel
theorem dX5_stamp_190 : decode cX5_stamp 190 = .ok (.iand, 1) := by decide +kernel
theorem dX5_stamp_191 : decode cX5_stamp 191 = .ok (.istore 9, 2) := by decide +kernel
theorem dX5_stamp_193 : decode cX5_stamp 193 = .ok (.iload 6, 2) := by decide +kernel
theorem dX5_stamp_195 : decode cX5_stamp 195 = .ok (.aload_n 0, 1) := by decide +kernel
theorem dX5_stamp_196 : decode cX5_stamp 196 = .ok (.getfield 16, 3) := by decide +kernel
theorem dX5_stamp_199 : decode cX5_stamp 199 = .ok (.iload 8, 2) := by decide +kernel
theorem dX5_stamp_201 : decode cX5_stamp 201 = .ok (.iaload, 1) := by decide +kernel
theorem dX5_stamp_202 : decode cX5_stamp 202 = .ok (.iload 9, 2) := by decide +kernel
theorem dX5_stamp_204 : decode cX5_stamp 204 = .ok (.if_icmp .ne 7, 3) := by decide +kernel
theorem dX5_stamp_207 : decode cX5_stamp 207 = .ok (.iconst 0, 1) := by decide +kernel
theorem dX5_stamp_208 : decode cX5_stamp 208 = .ok (.goto 4, 3) := by decide +kernel
theorem dX5_stamp_211 : decode cX5_stamp 211 = .ok (.iconst 1, 1) := by decide +kernel
theorem dX5_stamp_212 : decode cX5_stamp 212 = .ok (.iadd, 1) := by decide +kernel
theorem dX5_stamp_213 : decode cX5_stamp 213 = .ok (.istore 6, 2) := by decide +kernel
theorem dX5_stamp_215 : decode cX5_stamp 215 = .ok (.aload_n 0, 1) := by decide +kernel
theorem dX5_stamp_216 : decode cX5_stamp 216 = .ok (.getfield 16, 3) := by decide +kernel
theorem dX5_stamp_219 : decode cX5_stamp 219 = .ok (.iload 8, 2) := by decide +kernel
theorem dX5_stamp_221 : decode cX5_stamp 221 = .ok (.iload 9, 2) := by decide +kernel
theorem dX5_stamp_223 : decode cX5_stamp 223 = .ok (.iastore, 1) := by decide +kernel
theorem dX5_stamp_224 : decode cX5_stamp 224 = .ok (.iinc 7 1, 3) := by decide +kernel
theorem dX5_stamp_227 : decode cX5_stamp 227 = .ok (.goto (-68), 3) := by decide +kernel
theorem dX5_stamp_230 : decode cX5_stamp 230 = .ok (.iload 6, 2) := by decide +kernel
theorem dX5_stamp_232 : decode cX5_stamp 232 = .ok (.ireturn, 1) := by decide +kernel
set_option maxRecDepth 20000 in
theorem ggX5_spark_X5_isCell : GoodIn wsX5_spark wsX5_isCell := goodIn_r _ [8, 9, 10, 11, 12, 7, 13, 29, 30, 31, 32, 33, 34, 35, 36, 37, 38, 39, 40, 41, 42] (by decide +kernel) (by decide +kernel)
set_option maxRecDepth 20000 in
theorem gX5_spark_X5_isCell : GoodIn wsX5_spark (wsV RX5 77 RX5 yX5_isCell wsX5_isCell) := goodIn_app (goodIn_of _ (by decide +kernel)) ggX5_spark_X5_isCell
set_option maxRecDepth 20000 in
theorem ggX5_spark_X5_isIn : GoodIn wsX5_spark wsX5_isIn := goodIn_r _ [13] (by decide +kernel) (by decide +kernel)
set_option maxRecDepth 20000 in
theorem gX5_spark_X5_isIn : GoodIn wsX5_spark (va_wsS RX5 44 yX5_isIn wsX5_isIn) := goodIn_app (goodIn_of _ (by decide +kernel)) ggX5_spark_X5_isIn
set_option maxRecDepth 20000 in
theorem ggX5_spark_X5_fail : GoodIn wsX5_spark wsX5_fail := goodIn_r _ [17, 1, 29, 30, 31, 32, 33, 34, 35, 36, 37, 38, 39, 40, 41, 42] (by decide +kernel) (by decide +kernel)
set_option maxRecDepth 20000 in
theorem gX5_spark_X5_fail : GoodIn wsX5_spark (wsV RX5 74 RX5 yX5_fail wsX5_fail) := goodIn_app (goodIn_of _ (by decide +kernel)) ggX5_spark_X5_fail
set_option maxRecDepth 20000 in
theorem ggX5_spark_X5_at : GoodIn wsX5_spark wsX5_at := goodIn_r _ [20] (by decide +kernel) (by decide +kernel)
set_option maxRecDepth 20000 in
theorem gX5_spark_X5_at : GoodIn wsX5_spark (va_wsS RX5 48 yX5_at wsX5_at) := goodIn_app (goodIn_of _ (by decide +kernel)) ggX5_spark_X5_at
set_option maxRecDepth 20000 in
theorem ggX5_spark_X5_cells : GoodIn wsX5_spark wsX5_cells := goodIn_r _ [24, 9, 10, 3, 25, 26, 27, 7, 28, 18, 19, 20, 29, 30, 31, 32, 33, 34, 35, 36, 37, 38, 39, 40, 41, 42] (by decide +kernel) (by decide +kernel)
set_option maxRecDepth 20000 in
theorem gX5_spark_X5_cells : GoodIn wsX5_spark (wsV RX5 98 RX5 yX5_cells wsX5_cells) := goodIn_app (goodIn_of _ (by decide +kernel)) ggX5_spark_X5_cells
theorem dX5_spark_0 : decode cX5_spark 0 = .ok (.aload_n 0, 1) := by decide +kernel
theorem dX5_spark_1 : decode cX5_spark 1 = .ok (.iconst 0, 1) := by decide +kernel
theorem dX5_spark_2 : decode cX5_spark 2 = .ok (.putfield 41, 3) := by decide +kernel
theorem dX5_spark_5 : decode cX5_spark 5 = .ok (.aload_n 0, 1) := by decide +kernel
theorem dX5_spark_6 : decode cX5_spark 6 = .ok (.iload_n 1, 1) := by decide +kernel
theorem dX5_spark_7 : decode cX5_spark 7 = .ok (.iload_n 2, 1) := by decide +kernel
theorem dX5_spark_8 : decode cX5_spark 8 = .ok (.invokevirtual 77, 3) := by decide +kernel
theorem dX5_spark_11 : decode cX5_spark 11 = .ok (.ifCond .eq 13, 3) := by decide +kernel
theorem dX5_spark_14 : decode cX5_spark 14 = .ok (.iload_n 3, 1) := by decide +kernel
theorem dX5_spark_15 : decode cX5_spark 15 = .ok (.iconst 0, 1) := by decide +kernel
theorem dX5_spark_16 : decode cX5_spark 16 = .ok (.bipush 7, 2) := by decide +kernel
theorem dX5_spark_18 : decode cX5_spark 18 = .ok (.invokestatic 44, 3) := by decide +kernel
theorem dX5_spark_21 : decode cX5_spark 21 = .ok (.ifCond .ne 9, 3) := by decide +kernel
theorem dX5_spark_24 : decode cX5_spark 24 = .ok (.aload_n 0, 1) := by decide +kernel
theorem dX5_spark_25 : decode cX5_spark 25 = .ok (.iconst 1, 1) := by decide +kernel
theorem dX5_spark_26 : decode cX5_spark 26 = .ok (.invokevirtual 74, 3) := by decide +kernel
theorem dX5_spark_29 : decode cX5_spark 29 = .ok (.ireturn, 1) := by decide +kernel
theorem dX5_spark_30 : decode cX5_spark 30 = .ok (.iload_n 1, 1) := by decide +kernel
theorem dX5_spark_31 : decode cX5_spark 31 = .ok (.iload_n 2, 1) := by decide +kernel
theorem dX5_spark_32 : decode cX5_spark 32 = .ok (.invokestatic 48, 3) := by decide +kernel
theorem dX5_spark_35 : decode cX5_spark 35 = .ok (.istore 4, 2) := by decide +kernel
theorem dX5_spark_37 : decode cX5_spark 37 = .ok (.iload 4, 2) := by decide +kernel
theorem dX5_spark_39 : decode cX5_spark 39 = .ok (.getstatic 52, 3) := by decide +kernel
theorem dX5_spark_42 : decode cX5_spark 42 = .ok (.iload_n 3, 1) := by decide +kernel
theorem dX5_spark_43 : decode cX5_spark 43 = .ok (.iaload, 1) := by decide +kernel
theorem dX5_spark_44 : decode cX5_spark 44 = .ok (.isub, 1) := by decide +kernel
theorem dX5_spark_45 : decode cX5_spark 45 = .ok (.istore 5, 2) := by decide +kernel
theorem dX5_spark_47 : decode cX5_spark 47 = .ok (.aload_n 0, 1) := by decide +kernel
theorem dX5_spark_48 : decode cX5_spark 48 = .ok (.getfield 16, 3) := by decide +kernel
theorem dX5_spark_51 : decode cX5_spark 51 = .ok (.iload 4, 2) := by decide +kernel
theorem dX5_spark_53 : decode cX5_spark 53 = .ok (.iaload, 1) := by decide +kernel
theorem dX5_spark_54 : decode cX5_spark 54 = .ok (.iconst 1, 1) := by decide +kernel
theorem dX5_spark_55 : decode cX5_spark 55 = .ok (.if_icmp .ne 14, 3) := by decide +kernel
theorem dX5_spark_58 : decode cX5_spark 58 = .ok (.aload_n 0, 1) := by decide +kernel
theorem dX5_spark_59 : decode cX5_spark 59 = .ok (.getfield 16, 3) := by decide +kernel
theorem dX5_spark_62 : decode cX5_spark 62 = .ok (.iload 5, 2) := by decide +kernel
theorem dX5_spark_64 : decode cX5_spark 64 = .ok (.iaload, 1) := by decide +kernel
theorem dX5_spark_65 : decode cX5_spark 65 = .ok (.iconst 1, 1) := by decide +kernel
theorem dX5_spark_66 : decode cX5_spark 66 = .ok (.if_icmp .eq 9, 3) := by decide +kernel
theorem dX5_spark_69 : decode cX5_spark 69 = .ok (.aload_n 0, 1) := by decide +kernel
theorem dX5_spark_70 : decode cX5_spark 70 = .ok (.iconst 2, 1) := by decide +kernel
theorem dX5_spark_71 : decode cX5_spark 71 = .ok (.invokevirtual 74, 3) := by decide +kernel
theorem dX5_spark_74 : decode cX5_spark 74 = .ok (.ireturn, 1) := by decide +kernel
theorem dX5_spark_75 : decode cX5_spark 75 = .ok (.aload_n 0, 1) := by decide +kernel
theorem dX5_spark_76 : decode cX5_spark 76 = .ok (.getfield 16, 3) := by decide +kernel
theorem dX5_spark_79 : decode cX5_spark 79 = .ok (.iload 4, 2) := by decide +kernel
theorem dX5_spark_81 : decode cX5_spark 81 = .ok (.iconst 2, 1) := by decide +kernel
theorem dX5_spark_82 : decode cX5_spark 82 = .ok (.iastore, 1) := by decide +kernel
theorem dX5_spark_83 : decode cX5_spark 83 = .ok (.aload_n 0, 1) := by decide +kernel
theorem dX5_spark_84 : decode cX5_spark 84 = .ok (.getfield 16, 3) := by decide +kernel
theorem dX5_spark_87 : decode cX5_spark 87 = .ok (.iload 5, 2) := by decide +kernel
theorem dX5_spark_89 : decode cX5_spark 89 = .ok (.iconst 3, 1) := by decide +kernel
theorem dX5_spark_90 : decode cX5_spark 90 = .ok (.iastore, 1) := by decide +kernel
theorem dX5_spark_91 : decode cX5_spark 91 = .ok (.aload_n 0, 1) := by decide +kernel
theorem dX5_spark_92 : decode cX5_spark 92 = .ok (.iconst 2, 1) := by decide +kernel
theorem dX5_spark_93 : decode cX5_spark 93 = .ok (.invokevirtual 98, 3) := by decide +kernel
theorem dX5_spark_96 : decode cX5_spark 96 = .ok (.ireturn, 1) := by decide +kernel
set_option maxRecDepth 20000 in
theorem ggX5_lamp_X5_isCell : GoodIn wsX5_lamp wsX5_isCell := goodIn_r _ [8, 9, 10, 11, 12, 7, 13, 21, 22, 23, 24, 25, 26, 27, 28, 29, 30, 31, 32, 33, 34] (by decide +kernel) (by decide +kernel)
set_option maxRecDepth 20000 in
theorem gX5_lamp_X5_isCell : GoodIn wsX5_lamp (wsV RX5 77 RX5 yX5_isCell wsX5_isCell) := goodIn_app (goodIn_of _ (by decide +kernel)) ggX5_lamp_X5_isCell
set_option maxRecDepth 20000 in
theorem ggX5_lamp_X5_fail : GoodIn wsX5_lamp wsX5_fail := goodIn_r _ [17, 1, 21, 22, 23, 24, 25, 26, 27, 28, 29, 30, 31, 32, 33, 34] (by decide +kernel) (by decide +kernel)
set_option maxRecDepth 20000 in
theorem gX5_lamp_X5_fail : GoodIn wsX5_lamp (wsV RX5 74 RX5 yX5_fail wsX5_fail) := goodIn_app (goodIn_of _ (by decide +kernel)) ggX5_lamp_X5_fail
set_option maxRecDepth 20000 in
theorem ggX5_lamp_X5_at : GoodIn wsX5_lamp wsX5_at := goodIn_r _ [20] (by decide +kernel) (by decide +kernel)
set_option maxRecDepth 20000 in
theorem gX5_lamp_X5_at : GoodIn wsX5_lamp (va_wsS RX5 48 yX5_at wsX5_at) := goodIn_app (goodIn_of _ (by decide +kernel)) ggX5_lamp_X5_at
theorem dX5_lamp_0 : decode cX5_lamp 0 = .ok (.aload_n 0, 1) := by decide +kernel
theorem dX5_lamp_1 : decode cX5_lamp 1 = .ok (.iconst 0, 1) := by decide +kernel
theorem dX5_lamp_2 : decode cX5_lamp 2 = .ok (.putfield 41, 3) := by decide +kernel
theorem dX5_lamp_5 : decode cX5_lamp 5 = .ok (.aload_n 0, 1) := by decide +kernel
theorem dX5_lamp_6 : decode cX5_lamp 6 = .ok (.iload_n 1, 1) := by decide +kernel
theorem dX5_lamp_7 : decode cX5_lamp 7 = .ok (.iload_n 2, 1) := by decide +kernel
theorem dX5_lamp_8 : decode cX5_lamp 8 = .ok (.invokevirtual 77, 3) := by decide +kernel
theorem dX5_lamp_11 : decode cX5_lamp 11 = .ok (.ifCond .ne 9, 3) := by decide +kernel
theorem dX5_lamp_14 : decode cX5_lamp 14 = .ok (.aload_n 0, 1) := by decide +kernel
theorem dX5_lamp_15 : decode cX5_lamp 15 = .ok (.iconst 1, 1) := by decide +kernel
theorem dX5_lamp_16 : decode cX5_lamp 16 = .ok (.invokevirtual 74, 3) := by decide +kernel
theorem dX5_lamp_19 : decode cX5_lamp 19 = .ok (.ireturn, 1) := by decide +kernel
theorem dX5_lamp_20 : decode cX5_lamp 20 = .ok (.aload_n 0, 1) := by decide +kernel
theorem dX5_lamp_21 : decode cX5_lamp 21 = .ok (.getfield 65, 3) := by decide +kernel
theorem dX5_lamp_24 : decode cX5_lamp 24 = .ok (.iconst 5, 1) := by decide +kernel
theorem dX5_lamp_25 : decode cX5_lamp 25 = .ok (.if_icmp .ne 9, 3) := by decide +kernel
theorem dX5_lamp_28 : decode cX5_lamp 28 = .ok (.aload_n 0, 1) := by decide +kernel
theorem dX5_lamp_29 : decode cX5_lamp 29 = .ok (.iconst 2, 1) := by decide +kernel
theorem dX5_lamp_30 : decode cX5_lamp 30 = .ok (.invokevirtual 74, 3) := by decide +kernel
theorem dX5_lamp_33 : decode cX5_lamp 33 = .ok (.ireturn, 1) := by decide +kernel
theorem dX5_lamp_34 : decode cX5_lamp 34 = .ok (.aload_n 0, 1) := by decide +kernel
theorem dX5_lamp_35 : decode cX5_lamp 35 = .ok (.getfield 26, 3) := by decide +kernel
theorem dX5_lamp_38 : decode cX5_lamp 38 = .ok (.iconst 4, 1) := by decide +kernel
theorem dX5_lamp_39 : decode cX5_lamp 39 = .ok (.aload_n 0, 1) := by decide +kernel
theorem dX5_lamp_40 : decode cX5_lamp 40 = .ok (.getfield 65, 3) := by decide +kernel
theorem dX5_lamp_43 : decode cX5_lamp 43 = .ok (.imul, 1) := by decide +kernel
theorem dX5_lamp_44 : decode cX5_lamp 44 = .ok (.iload_n 1, 1) := by decide +kernel
theorem dX5_lamp_45 : decode cX5_lamp 45 = .ok (.iload_n 2, 1) := by decide +kernel
theorem dX5_lamp_46 : decode cX5_lamp 46 = .ok (.invokestatic 48, 3) := by decide +kernel
theorem dX5_lamp_49 : decode cX5_lamp 49 = .ok (.iastore, 1) := by decide +kernel
theorem dX5_lamp_50 : decode cX5_lamp 50 = .ok (.aload_n 0, 1) := by decide +kernel
theorem dX5_lamp_51 : decode cX5_lamp 51 = .ok (.getfield 26, 3) := by decide +kernel
theorem dX5_lamp_54 : decode cX5_lamp 54 = .ok (.iconst 4, 1) := by decide +kernel
theorem dX5_lamp_55 : decode cX5_lamp 55 = .ok (.aload_n 0, 1) := by decide +kernel
theorem dX5_lamp_56 : decode cX5_lamp 56 = .ok (.getfield 65, 3) := by decide +kernel
theorem dX5_lamp_59 : decode cX5_lamp 59 = .ok (.imul, 1) := by decide +kernel
theorem dX5_lamp_60 : decode cX5_lamp 60 = .ok (.iconst 1, 1) := by decide +kernel
theorem dX5_lamp_61 : decode cX5_lamp 61 = .ok (.iadd, 1) := by decide +kernel
theorem dX5_lamp_62 : decode cX5_lamp 62 = .ok (.iconst 0, 1) := by decide +kernel
theorem dX5_lamp_63 : decode cX5_lamp 63 = .ok (.iastore, 1) := by decide +kernel
theorem dX5_lamp_64 : decode cX5_lamp 64 = .ok (.aload_n 0, 1) := by decide +kernel
theorem dX5_lamp_65 : decode cX5_lamp 65 = .ok (.getfield 26, 3) := by decide +kernel
theorem dX5_lamp_68 : decode cX5_lamp 68 = .ok (.iconst 4, 1) := by decide +kernel
theorem dX5_lamp_69 : decode cX5_lamp 69 = .ok (.aload_n 0, 1) := by decide +kernel
theorem dX5_lamp_70 : decode cX5_lamp 70 = .ok (.getfield 65, 3) := by decide +kernel
theorem dX5_lamp_73 : decode cX5_lamp 73 = .ok (.imul, 1) := by decide +kernel
theorem dX5_lamp_74 : decode cX5_lamp 74 = .ok (.iconst 2, 1) := by decide +kernel
theorem dX5_lamp_75 : decode cX5_lamp 75 = .ok (.iadd, 1) := by decide +kernel
theorem dX5_lamp_76 : decode cX5_lamp 76 = .ok (.iconst 0, 1) := by decide +kernel
theorem dX5_lamp_77 : decode cX5_lamp 77 = .ok (.iastore, 1) := by decide +kernel
theorem dX5_lamp_78 : decode cX5_lamp 78 = .ok (.aload_n 0, 1) := by decide +kernel
theorem dX5_lamp_79 : decode cX5_lamp 79 = .ok (.dup, 1) := by decide +kernel
theorem dX5_lamp_80 : decode cX5_lamp 80 = .ok (.getfield 65, 3) := by decide +kernel
theorem dX5_lamp_83 : decode cX5_lamp 83 = .ok (.iconst 1, 1) := by decide +kernel
theorem dX5_lamp_84 : decode cX5_lamp 84 = .ok (.iadd, 1) := by decide +kernel
theorem dX5_lamp_85 : decode cX5_lamp 85 = .ok (.putfield 65, 3) := by decide +kernel
theorem dX5_lamp_88 : decode cX5_lamp 88 = .ok (.aload_n 0, 1) := by decide +kernel
theorem dX5_lamp_89 : decode cX5_lamp 89 = .ok (.getfield 65, 3) := by decide +kernel
theorem dX5_lamp_92 : decode cX5_lamp 92 = .ok (.iconst 1, 1) := by decide +kernel
theorem dX5_lamp_93 : decode cX5_lamp 93 = .ok (.isub, 1) := by decide +kernel
theorem dX5_lamp_94 : decode cX5_lamp 94 = .ok (.ireturn, 1) := by decide +kernel
set_option maxRecDepth 20000 in
theorem ggX5_pass_X5_isIn : GoodIn wsX5_pass wsX5_isIn := goodIn_r _ [7] (by decide +kernel) (by decide +kernel)
set_option maxRecDepth 20000 in
theorem gX5_pass_X5_isIn : GoodIn wsX5_pass (va_wsS RX5 44 yX5_isIn wsX5_isIn) := goodIn_app (goodIn_of _ (by decide +kernel)) ggX5_pass_X5_isIn
set_option maxRecDepth 20000 in
theorem ggX5_pass_X5_fail : GoodIn wsX5_pass wsX5_fail := goodIn_r _ [11, 1, 46, 47, 48, 49, 50, 51, 52, 53, 54, 55, 56, 57, 58, 59] (by decide +kernel) (by decide +kernel)
set_option maxRecDepth 20000 in
theorem gX5_pass_X5_fail : GoodIn wsX5_pass (wsV RX5 74 RX5 yX5_fail wsX5_fail) := goodIn_app (goodIn_of _ (by decide +kernel)) ggX5_pass_X5_fail
set_option maxRecDepth 20000 in
theorem ggX5_pass_X5_step : GoodIn wsX5_pass wsX5_step := goodIn_r _ [15, 16, 17, 18, 19, 20, 21, 22, 6, 23, 24, 25, 26, 27, 28, 29, 30, 31, 32, 33, 34, 35, 46, 47, 48, 49, 50, 51, 52, 53, 54, 55, 56, 57, 58, 59] (by decide +kernel) (by decide +kernel)
set_option maxRecDepth 20000 in
theorem gX5_pass_X5_step : GoodIn wsX5_pass (wsV RX5 101 RX5 yX5_step wsX5_step) := goodIn_app (goodIn_of _ (by decide +kernel)) ggX5_pass_X5_step
set_option maxRecDepth 20000 in
theorem ggX5_pass_X5_light : GoodIn wsX5_pass wsX5_light := goodIn_r _ [39, 40, 19, 41, 46, 47, 48, 49, 50, 51, 52, 53, 54, 55, 56, 57, 58, 59] (by decide +kernel) (by decide +kernel)
set_option maxRecDepth 20000 in
theorem gX5_pass_X5_light : GoodIn wsX5_pass (wsV RX5 107 RX5 yX5_light wsX5_light) := goodIn_app (goodIn_of _ (by decide +kernel)) ggX5_pass_X5_light
set_option maxRecDepth 20000 in
theorem ggX5_pass_X5_cells : GoodIn wsX5_pass wsX5_cells := goodIn_r _ [45, 16, 17, 19, 20, 21, 22, 6, 23, 24, 25, 26, 46, 47, 48, 49, 50, 51, 52, 53, 54, 55, 56, 57, 58, 59] (by decide +kernel) (by decide +kernel)
set_option maxRecDepth 20000 in
theorem gX5_pass_X5_cells : GoodIn wsX5_pass (wsV RX5 98 RX5 yX5_cells wsX5_cells) := goodIn_app (goodIn_of _ (by decide +kernel)) ggX5_pass_X5_cells
theorem dX5_pass_0 : decode cX5_pass 0 = .ok (.aload_n 0, 1) := by decide +kernel
theorem dX5_pass_1 : decode cX5_pass 1 = .ok (.iconst 0, 1) := by decide +kernel
theorem dX5_pass_2 : decode cX5_pass 2 = .ok (.putfield 41, 3) := by decide +kernel
theorem dX5_pass_5 : decode cX5_pass 5 = .ok (.iload_n 1, 1) := by decide +kernel
theorem dX5_pass_6 : decode cX5_pass 6 = .ok (.iconst 1, 1) := by decide +kernel
theorem dX5_pass_7 : decode cX5_pass 7 = .ok (.bipush 100, 2) := by decide +kernel
theorem dX5_pass_9 : decode cX5_pass 9 = .ok (.invokestatic 44, 3) := by decide +kernel
theorem dX5_pass_12 : decode cX5_pass 12 = .ok (.ifCond .ne 9, 3) := by decide +kernel
theorem dX5_pass_15 : decode cX5_pass 15 = .ok (.aload_n 0, 1) := by decide +kernel
theorem dX5_pass_16 : decode cX5_pass 16 = .ok (.iconst 1, 1) := by decide +kernel
theorem dX5_pass_17 : decode cX5_pass 17 = .ok (.invokevirtual 74, 3) := by decide +kernel
theorem dX5_pass_20 : decode cX5_pass 20 = .ok (.ireturn, 1) := by decide +kernel
theorem dX5_pass_21 : decode cX5_pass 21 = .ok (.iconst 0, 1) := by decide +kernel
theorem dX5_pass_22 : decode cX5_pass 22 = .ok (.istore_n 2, 1) := by decide +kernel
theorem dX5_pass_23 : decode cX5_pass 23 = .ok (.iload_n 2, 1) := by decide +kernel
theorem dX5_pass_24 : decode cX5_pass 24 = .ok (.iload_n 1, 1) := by decide +kernel
theorem dX5_pass_25 : decode cX5_pass 25 = .ok (.if_icmp .ge 45, 3) := by decide +kernel
theorem dX5_pass_28 : decode cX5_pass 28 = .ok (.aload_n 0, 1) := by decide +kernel
theorem dX5_pass_29 : decode cX5_pass 29 = .ok (.invokevirtual 101, 3) := by decide +kernel
theorem dX5_pass_32 : decode cX5_pass 32 = .ok (.aload_n 0, 1) := by decide +kernel
theorem dX5_pass_33 : decode cX5_pass 33 = .ok (.dup, 1) := by decide +kernel
theorem dX5_pass_34 : decode cX5_pass 34 = .ok (.getfield 104, 3) := by decide +kernel
theorem dX5_pass_37 : decode cX5_pass 37 = .ok (.iconst 1, 1) := by decide +kernel
theorem dX5_pass_38 : decode cX5_pass 38 = .ok (.iadd, 1) := by decide +kernel
theorem dX5_pass_39 : decode cX5_pass 39 = .ok (.putfield 104, 3) := by decide +kernel
theorem dX5_pass_42 : decode cX5_pass 42 = .ok (.aload_n 0, 1) := by decide +kernel
theorem dX5_pass_43 : decode cX5_pass 43 = .ok (.aload_n 0, 1) := by decide +kernel
theorem dX5_pass_44 : decode cX5_pass 44 = .ok (.getfield 104, 3) := by decide +kernel
theorem dX5_pass_47 : decode cX5_pass 47 = .ok (.invokevirtual 107, 3) := by decide +kernel
theorem dX5_pass_50 : decode cX5_pass 50 = .ok (.aload_n 0, 1) := by decide +kernel
theorem dX5_pass_51 : decode cX5_pass 51 = .ok (.dup, 1) := by decide +kernel
theorem dX5_pass_52 : decode cX5_pass 52 = .ok (.getfield 111, 3) := by decide +kernel
theorem dX5_pass_55 : decode cX5_pass 55 = .ok (.aload_n 0, 1) := by decide +kernel
theorem dX5_pass_56 : decode cX5_pass 56 = .ok (.iconst 2, 1) := by decide +kernel
theorem dX5_pass_57 : decode cX5_pass 57 = .ok (.invokevirtual 98, 3) := by decide +kernel
theorem dX5_pass_60 : decode cX5_pass 60 = .ok (.iadd, 1) := by decide +kernel
theorem dX5_pass_61 : decode cX5_pass 61 = .ok (.putfield 111, 3) := by decide +kernel
theorem dX5_pass_64 : decode cX5_pass 64 = .ok (.iinc 2 1, 3) := by decide +kernel
theorem dX5_pass_67 : decode cX5_pass 67 = .ok (.goto (-44), 3) := by decide +kernel
theorem dX5_pass_70 : decode cX5_pass 70 = .ok (.aload_n 0, 1) := by decide +kernel
theorem dX5_pass_71 : decode cX5_pass 71 = .ok (.iconst 2, 1) := by decide +kernel
theorem dX5_pass_72 : decode cX5_pass 72 = .ok (.invokevirtual 98, 3) := by decide +kernel
theorem dX5_pass_75 : decode cX5_pass 75 = .ok (.ireturn, 1) := by decide +kernel
theorem dX5_spread_0 : decode cX5_spread 0 = .ok (.iconst 0, 1) := by decide +kernel
theorem dX5_spread_1 : decode cX5_spread 1 = .ok (.istore_n 2, 1) := by decide +kernel
theorem dX5_spread_2 : decode cX5_spread 2 = .ok (.iload_n 2, 1) := by decide +kernel
theorem dX5_spread_3 : decode cX5_spread 3 = .ok (.sipush 144, 3) := by decide +kernel
theorem dX5_spread_6 : decode cX5_spread 6 = .ok (.if_icmp .ge 16, 3) := by decide +kernel
theorem dX5_spread_9 : decode cX5_spread 9 = .ok (.aload_n 0, 1) := by decide +kernel
theorem dX5_spread_10 : decode cX5_spread 10 = .ok (.getfield 35, 3) := by decide +kernel
theorem dX5_spread_13 : decode cX5_spread 13 = .ok (.iload_n 2, 1) := by decide +kernel
theorem dX5_spread_14 : decode cX5_spread 14 = .ok (.iconst (-1), 1) := by decide +kernel
theorem dX5_spread_15 : decode cX5_spread 15 = .ok (.iastore, 1) := by decide +kernel
theorem dX5_spread_16 : decode cX5_spread 16 = .ok (.iinc 2 1, 3) := by decide +kernel
theorem dX5_spread_19 : decode cX5_spread 19 = .ok (.goto (-17), 3) := by decide +kernel
theorem dX5_spread_22 : decode cX5_spread 22 = .ok (.aload_n 0, 1) := by decide +kernel
theorem dX5_spread_23 : decode cX5_spread 23 = .ok (.getfield 35, 3) := by decide +kernel
theorem dX5_spread_26 : decode cX5_spread 26 = .ok (.iload_n 1, 1) := by decide +kernel
theorem dX5_spread_27 : decode cX5_spread 27 = .ok (.iconst 0, 1) := by decide +kernel
theorem dX5_spread_28 : decode cX5_spread 28 = .ok (.iastore, 1) := by decide +kernel
theorem dX5_spread_29 : decode cX5_spread 29 = .ok (.aload_n 0, 1) := by decide +kernel
theorem dX5_spread_30 : decode cX5_spread 30 = .ok (.getfield 38, 3) := by decide +kernel
theorem dX5_spread_33 : decode cX5_spread 33 = .ok (.iconst 0, 1) := by decide +kernel
theorem dX5_spread_34 : decode cX5_spread 34 = .ok (.iload_n 1, 1) := by decide +kernel
theorem dX5_spread_35 : decode cX5_spread 35 = .ok (.iastore, 1) := by decide +kernel
theorem dX5_spread_36 : decode cX5_spread 36 = .ok (.iconst 1, 1) := by decide +kernel
theorem dX5_spread_37 : decode cX5_spread 37 = .ok (.istore_n 2, 1) := by decide +kernel
theorem dX5_spread_38 : decode cX5_spread 38 = .ok (.iconst 0, 1) := by decide +kernel
theorem dX5_spread_39 : decode cX5_spread 39 = .ok (.istore_n 3, 1) := by decide +kernel
theorem dX5_spread_40 : decode cX5_spread 40 = .ok (.iload_n 3, 1) := by decide +kernel
theorem dX5_spread_41 : decode cX5_spread 41 = .ok (.iload_n 2, 1) := by decide +kernel
theorem dX5_spread_42 : decode cX5_spread 42 = .ok (.if_icmp .ge 108, 3) := by decide +kernel
theorem dX5_spread_45 : decode cX5_spread 45 = .ok (.getstatic 52, 3) := by decide +kernel
theorem dX5_spread_48 : decode cX5_spread 48 = .ok (.astore 4, 2) := by decide +kernel
theorem dX5_spread_50 : decode cX5_spread 50 = .ok (.aload 4, 2) := by decide +kernel
theorem dX5_spread_52 : decode cX5_spread 52 = .ok (.arraylength, 1) := by decide +kernel
theorem dX5_spread_53 : decode cX5_spread 53 = .ok (.istore 5, 2) := by decide +kernel
theorem dX5_spread_55 : decode cX5_spread 55 = .ok (.iconst 0, 1) := by decide +kernel
theorem dX5_spread_56 : decode cX5_spread 56 = .ok (.istore 6, 2) := by decide +kernel
theorem dX5_spread_58 : decode cX5_spread 58 = .ok (.iload 6, 2) := by decide +kernel
theorem dX5_spread_60 : decode cX5_spread 60 = .ok (.iload 5, 2) := by decide +kernel
theorem dX5_spread_62 : decode cX5_spread 62 = .ok (.if_icmp .ge 82, 3) := by decide +kernel
theorem dX5_spread_65 : decode cX5_spread 65 = .ok (.aload 4, 2) := by decide +kernel
theorem dX5_spread_67 : decode cX5_spread 67 = .ok (.iload 6, 2) := by decide +kernel
theorem dX5_spread_69 : decode cX5_spread 69 = .ok (.iaload, 1) := by decide +kernel
theorem dX5_spread_70 : decode cX5_spread 70 = .ok (.istore 7, 2) := by decide +kernel
theorem dX5_spread_72 : decode cX5_spread 72 = .ok (.aload_n 0, 1) := by decide +kernel
theorem dX5_spread_73 : decode cX5_spread 73 = .ok (.getfield 38, 3) := by decide +kernel
theorem dX5_spread_76 : decode cX5_spread 76 = .ok (.iload_n 3, 1) := by decide +kernel
theorem dX5_spread_77 : decode cX5_spread 77 = .ok (.iaload, 1) := by decide +kernel
theorem dX5_spread_78 : decode cX5_spread 78 = .ok (.iload 7, 2) := by decide +kernel
theorem dX5_spread_80 : decode cX5_spread 80 = .ok (.iadd, 1) := by decide +kernel
theorem dX5_spread_81 : decode cX5_spread 81 = .ok (.istore 8, 2) := by decide +kernel
theorem dX5_spread_83 : decode cX5_spread 83 = .ok (.aload_n 0, 1) := by decide +kernel
theorem dX5_spread_84 : decode cX5_spread 84 = .ok (.getfield 16, 3) := by decide +kernel
theorem dX5_spread_87 : decode cX5_spread 87 = .ok (.iload 8, 2) := by decide +kernel
theorem dX5_spread_89 : decode cX5_spread 89 = .ok (.iaload, 1) := by decide +kernel
theorem dX5_spread_90 : decode cX5_spread 90 = .ok (.ifCond .eq 48, 3) := by decide +kernel
theorem dX5_spread_93 : decode cX5_spread 93 = .ok (.aload_n 0, 1) := by decide +kernel
theorem dX5_spread_94 : decode cX5_spread 94 = .ok (.getfield 35, 3) := by decide +kernel
theorem dX5_spread_97 : decode cX5_spread 97 = .ok (.iload 8, 2) := by decide +kernel
theorem dX5_spread_99 : decode cX5_spread 99 = .ok (.iaload, 1) := by decide +kernel
theorem dX5_spread_100 : decode cX5_spread 100 = .ok (.iconst (-1), 1) := by decide +kernel
theorem dX5_spread_101 : decode cX5_spread 101 = .ok (.if_icmp .eq 6, 3) := by decide +kernel
theorem dX5_spread_104 : decode cX5_spread 104 = .ok (.goto 34, 3) := by decide +kernel
theorem dX5_spread_107 : decode cX5_spread 107 = .ok (.aload_n 0, 1) := by decide +kernel
theorem dX5_spread_108 : decode cX5_spread 108 = .ok (.getfield 35, 3) := by decide +kernel
theorem dX5_spread_111 : decode cX5_spread 111 = .ok (.iload 8, 2) := by decide +kernel
theorem dX5_spread_113 : decode cX5_spread 113 = .ok (.aload_n 0, 1) := by decide +kernel
theorem dX5_spread_114 : decode cX5_spread 114 = .ok (.getfield 35, 3) := by decide +kernel
theorem dX5_spread_117 : decode cX5_spread 117 = .ok (.aload_n 0, 1) := by decide +kernel
theorem dX5_spread_118 : decode cX5_spread 118 = .ok (.getfield 38, 3) := by decide +kernel
theorem dX5_spread_121 : decode cX5_spread 121 = .ok (.iload_n 3, 1) := by decide +kernel
theorem dX5_spread_122 : decode cX5_spread 122 = .ok (.iaload, 1) := by decide +kernel
theorem dX5_spread_123 : decode cX5_spread 123 = .ok (.iaload, 1) := by decide +kernel
theorem dX5_spread_124 : decode cX5_spread 124 = .ok (.iconst 1, 1) := by decide +kernel
theorem dX5_spread_125 : decode cX5_spread 125 = .ok (.iadd, 1) := by decide +kernel
theorem dX5_spread_126 : decode cX5_spread 126 = .ok (.iastore, 1) := by decide +kernel
theorem dX5_spread_127 : decode cX5_spread 127 = .ok (.aload_n 0, 1) := by decide +kernel
theorem dX5_spread_128 : decode cX5_spread 128 = .ok (.getfield 38, 3) := by decide +kernel
theorem dX5_spread_131 : decode cX5_spread 131 = .ok (.iload_n 2, 1) := by decide +kernel
theorem dX5_spread_132 : decode cX5_spread 132 = .ok (.iload 8, 2) := by decide +kernel
theorem dX5_spread_134 : decode cX5_spread 134 = .ok (.iastore, 1) := by decide +kernel
theorem dX5_spread_135 : decode cX5_spread 135 = .ok (.iinc 2 1, 3) := by decide +kernel
theorem dX5_spread_138 : decode cX5_spread 138 = .ok (.iinc 6 1, 3) := by decide +kernel
theorem dX5_spread_141 : decode cX5_spread 141 = .ok (.goto (-83), 3) := by decide +kernel
theorem dX5_spread_144 : decode cX5_spread 144 = .ok (.iinc 3 1, 3) := by decide +kernel
theorem dX5_spread_147 : decode cX5_spread 147 = .ok (.goto (-107), 3) := by decide +kernel
theorem dX5_spread_150 : decode cX5_spread 150 = .ok (.iload_n 2, 1) := by decide +kernel
theorem dX5_spread_151 : decode cX5_spread 151 = .ok (.ireturn, 1) := by decide +kernel
set_option maxRecDepth 20000 in
theorem ggX5_piece_X5_spread : GoodIn wsX5_piece wsX5_spread := goodIn_r _ [6, 7, 8, 9, 1, 10, 11, 12, 13, 14, 15, 16, 17, 18, 19, 20, 21, 22, 23] (by decide +kernel) (by decide +kernel)
set_option maxRecDepth 20000 in
theorem gX5_piece_X5_spread : GoodIn wsX5_piece (wsV RX5 114 RX5 yX5_spread wsX5_spread) := goodIn_app (goodIn_of _ (by decide +kernel)) ggX5_piece_X5_spread
theorem dX5_piece_0 : decode cX5_piece 0 = .ok (.aload_n 0, 1) := by decide +kernel
theorem dX5_piece_1 : decode cX5_piece 1 = .ok (.getfield 16, 3) := by decide +kernel
theorem dX5_piece_4 : decode cX5_piece 4 = .ok (.iload_n 1, 1) := by decide +kernel
theorem dX5_piece_5 : decode cX5_piece 5 = .ok (.iaload, 1) := by decide +kernel
theorem dX5_piece_6 : decode cX5_piece 6 = .ok (.ifCond .ne 7, 3) := by decide +kernel
theorem dX5_piece_9 : decode cX5_piece 9 = .ok (.iconst 0, 1) := by decide +kernel
theorem dX5_piece_10 : decode cX5_piece 10 = .ok (.goto 8, 3) := by decide +kernel
theorem dX5_piece_13 : decode cX5_piece 13 = .ok (.aload_n 0, 1) := by decide +kernel
theorem dX5_piece_14 : decode cX5_piece 14 = .ok (.iload_n 1, 1) := by decide +kernel
theorem dX5_piece_15 : decode cX5_piece 15 = .ok (.invokevirtual 114, 3) := by decide +kernel
theorem dX5_piece_18 : decode cX5_piece 18 = .ok (.ireturn, 1) := by decide +kernel
set_option maxRecDepth 20000 in
theorem ggX5_cellTold_X5_around : GoodIn wsX5_cellTold wsX5_around := goodIn_r _ [6, 7, 1, 22, 23, 24, 25, 26, 27, 28, 29, 30, 31, 32, 33, 34, 35] (by decide +kernel) (by decide +kernel)
set_option maxRecDepth 20000 in
theorem gX5_cellTold_X5_around : GoodIn wsX5_cellTold (wsV RX5 55 RX5 yX5_around wsX5_around) := goodIn_app (goodIn_of _ (by decide +kernel)) ggX5_cellTold_X5_around
set_option maxRecDepth 20000 in
theorem ggX5_cellTold_X5_next : GoodIn wsX5_cellTold wsX5_next := goodIn_r _ [11, 1, 2, 3, 4, 5, 6, 7, 22, 23, 24, 25, 26, 27, 28, 29, 30, 31, 32, 33, 34, 35] (by decide +kernel) (by decide +kernel)
set_option maxRecDepth 20000 in
theorem gX5_cellTold_X5_next : GoodIn wsX5_cellTold (wsV RX5 62 RX5 yX5_next wsX5_next) := goodIn_app (goodIn_of _ (by decide +kernel)) ggX5_cellTold_X5_next
set_option maxRecDepth 20000 in
theorem ggX5_cellTold_X5_piece : GoodIn wsX5_cellTold wsX5_piece := goodIn_r _ [15, 1, 16, 17, 18, 5, 19, 20, 21, 7, 22, 23, 24, 25, 26, 27, 28, 29, 30, 31, 32, 33, 34, 35] (by decide +kernel) (by decide +kernel)
set_option maxRecDepth 20000 in
theorem gX5_cellTold_X5_piece : GoodIn wsX5_cellTold (wsV RX5 117 RX5 yX5_piece wsX5_piece) := goodIn_app (goodIn_of _ (by decide +kernel)) ggX5_cellTold_X5_piece
theorem dX5_cellTold_0 : decode cX5_cellTold 0 = .ok (.iload_n 2, 1) := by decide +kernel
theorem dX5_cellTold_1 : decode cX5_cellTold 1 = .ok (.tableswitch 57 0 3 #[31, 38, 45, 51], 31) := by decide +kernel
theorem dX5_cellTold_32 : decode cX5_cellTold 32 = .ok (.aload_n 0, 1) := by decide +kernel
theorem dX5_cellTold_33 : decode cX5_cellTold 33 = .ok (.getfield 16, 3) := by decide +kernel
theorem dX5_cellTold_36 : decode cX5_cellTold 36 = .ok (.iload_n 1, 1) := by decide +kernel
theorem dX5_cellTold_37 : decode cX5_cellTold 37 = .ok (.iaload, 1) := by decide +kernel
theorem dX5_cellTold_38 : decode cX5_cellTold 38 = .ok (.ireturn, 1) := by decide +kernel
theorem dX5_cellTold_39 : decode cX5_cellTold 39 = .ok (.aload_n 0, 1) := by decide +kernel
theorem dX5_cellTold_40 : decode cX5_cellTold 40 = .ok (.iload_n 1, 1) := by decide +kernel
theorem dX5_cellTold_41 : decode cX5_cellTold 41 = .ok (.iconst 2, 1) := by decide +kernel
theorem dX5_cellTold_42 : decode cX5_cellTold 42 = .ok (.invokevirtual 55, 3) := by decide +kernel
theorem dX5_cellTold_45 : decode cX5_cellTold 45 = .ok (.ireturn, 1) := by decide +kernel
theorem dX5_cellTold_46 : decode cX5_cellTold 46 = .ok (.aload_n 0, 1) := by decide +kernel
theorem dX5_cellTold_47 : decode cX5_cellTold 47 = .ok (.iload_n 1, 1) := by decide +kernel
theorem dX5_cellTold_48 : decode cX5_cellTold 48 = .ok (.invokevirtual 62, 3) := by decide +kernel
theorem dX5_cellTold_51 : decode cX5_cellTold 51 = .ok (.ireturn, 1) := by decide +kernel
theorem dX5_cellTold_52 : decode cX5_cellTold 52 = .ok (.aload_n 0, 1) := by decide +kernel
theorem dX5_cellTold_53 : decode cX5_cellTold 53 = .ok (.iload_n 1, 1) := by decide +kernel
theorem dX5_cellTold_54 : decode cX5_cellTold 54 = .ok (.invokevirtual 117, 3) := by decide +kernel
theorem dX5_cellTold_57 : decode cX5_cellTold 57 = .ok (.ireturn, 1) := by decide +kernel
theorem dX5_cellTold_58 : decode cX5_cellTold 58 = .ok (.bipush 8, 2) := by decide +kernel
theorem dX5_cellTold_60 : decode cX5_cellTold 60 = .ok (.aload_n 0, 1) := by decide +kernel
theorem dX5_cellTold_61 : decode cX5_cellTold 61 = .ok (.iload_n 1, 1) := by decide +kernel
theorem dX5_cellTold_62 : decode cX5_cellTold 62 = .ok (.iconst 0, 1) := by decide +kernel
theorem dX5_cellTold_63 : decode cX5_cellTold 63 = .ok (.invokevirtual 55, 3) := by decide +kernel
theorem dX5_cellTold_66 : decode cX5_cellTold 66 = .ok (.isub, 1) := by decide +kernel
theorem dX5_cellTold_67 : decode cX5_cellTold 67 = .ok (.ireturn, 1) := by decide +kernel
set_option maxRecDepth 20000 in
theorem ggX5_told_X5_isCell : GoodIn wsX5_told wsX5_isCell := goodIn_r _ [6, 7, 8, 9, 10, 5, 11, 43, 44, 45, 46, 47, 48, 49, 50, 51, 52, 53, 54, 55, 56] (by decide +kernel) (by decide +kernel)
set_option maxRecDepth 20000 in
theorem gX5_told_X5_isCell : GoodIn wsX5_told (wsV RX5 77 RX5 yX5_isCell wsX5_isCell) := goodIn_app (goodIn_of _ (by decide +kernel)) ggX5_told_X5_isCell
set_option maxRecDepth 20000 in
theorem ggX5_told_X5_isIn : GoodIn wsX5_told wsX5_isIn := goodIn_r _ [11] (by decide +kernel) (by decide +kernel)
set_option maxRecDepth 20000 in
theorem gX5_told_X5_isIn : GoodIn wsX5_told (va_wsS RX5 44 yX5_isIn wsX5_isIn) := goodIn_app (goodIn_of _ (by decide +kernel)) ggX5_told_X5_isIn
set_option maxRecDepth 20000 in
theorem ggX5_told_X5_at : GoodIn wsX5_told wsX5_at := goodIn_r _ [14] (by decide +kernel) (by decide +kernel)
set_option maxRecDepth 20000 in
theorem gX5_told_X5_at : GoodIn wsX5_told (va_wsS RX5 48 yX5_at wsX5_at) := goodIn_app (goodIn_of _ (by decide +kernel)) ggX5_told_X5_at
set_option maxRecDepth 20000 in
theorem ggX5_told_X5_cellTold : GoodIn wsX5_told wsX5_cellTold := goodIn_r _ [18, 19, 20, 21, 22, 5, 23, 24, 25, 26, 27, 28, 29, 30, 31, 32, 33, 34, 35, 36, 37, 38, 43, 44, 45, 46, 47, 48, 49, 50, 51, 52, 53, 54, 55, 56] (by decide +kernel) (by decide +kernel)
set_option maxRecDepth 20000 in
theorem gX5_told_X5_cellTold : GoodIn wsX5_told (wsV RX5 120 RX5 yX5_cellTold wsX5_cellTold) := goodIn_app (goodIn_of _ (by decide +kernel)) ggX5_told_X5_cellTold
set_option maxRecDepth 20000 in
theorem ggX5_told_X5_fail : GoodIn wsX5_told wsX5_fail := goodIn_r _ [42, 1, 43, 44, 45, 46, 47, 48, 49, 50, 51, 52, 53, 54, 55, 56] (by decide +kernel) (by decide +kernel)
set_option maxRecDepth 20000 in
theorem gX5_told_X5_fail : GoodIn wsX5_told (wsV RX5 74 RX5 yX5_fail wsX5_fail) := goodIn_app (goodIn_of _ (by decide +kernel)) ggX5_told_X5_fail
theorem dX5_told_0 : decode cX5_told 0 = .ok (.aload_n 0, 1) := by decide +kernel
theorem dX5_told_1 : decode cX5_told 1 = .ok (.iconst 0, 1) := by decide +kernel
theorem dX5_told_2 : decode cX5_told 2 = .ok (.putfield 41, 3) := by decide +kernel
theorem dX5_told_5 : decode cX5_told 5 = .ok (.aload_n 0, 1) := by decide +kernel
theorem dX5_told_6 : decode cX5_told 6 = .ok (.iload_n 1, 1) := by decide +kernel
theorem dX5_told_7 : decode cX5_told 7 = .ok (.iload_n 2, 1) := by decide +kernel
theorem dX5_told_8 : decode cX5_told 8 = .ok (.invokevirtual 77, 3) := by decide +kernel
theorem dX5_told_11 : decode cX5_told 11 = .ok (.ifCond .eq 25, 3) := by decide +kernel
theorem dX5_told_14 : decode cX5_told 14 = .ok (.iload_n 3, 1) := by decide +kernel
theorem dX5_told_15 : decode cX5_told 15 = .ok (.iconst 0, 1) := by decide +kernel
theorem dX5_told_16 : decode cX5_told 16 = .ok (.iconst 4, 1) := by decide +kernel
theorem dX5_told_17 : decode cX5_told 17 = .ok (.invokestatic 44, 3) := by decide +kernel
theorem dX5_told_20 : decode cX5_told 20 = .ok (.ifCond .eq 16, 3) := by decide +kernel
theorem dX5_told_23 : decode cX5_told 23 = .ok (.aload_n 0, 1) := by decide +kernel
theorem dX5_told_24 : decode cX5_told 24 = .ok (.iload_n 1, 1) := by decide +kernel
theorem dX5_told_25 : decode cX5_told 25 = .ok (.iload_n 2, 1) := by decide +kernel
theorem dX5_told_26 : decode cX5_told 26 = .ok (.invokestatic 48, 3) := by decide +kernel
theorem dX5_told_29 : decode cX5_told 29 = .ok (.iload_n 3, 1) := by decide +kernel
theorem dX5_told_30 : decode cX5_told 30 = .ok (.invokevirtual 120, 3) := by decide +kernel
theorem dX5_told_33 : decode cX5_told 33 = .ok (.goto 8, 3) := by decide +kernel
theorem dX5_told_36 : decode cX5_told 36 = .ok (.aload_n 0, 1) := by decide +kernel
theorem dX5_told_37 : decode cX5_told 37 = .ok (.iconst 1, 1) := by decide +kernel
theorem dX5_told_38 : decode cX5_told 38 = .ok (.invokevirtual 74, 3) := by decide +kernel
theorem dX5_told_41 : decode cX5_told 41 = .ok (.ireturn, 1) := by decide +kernel
theorem dX5_lampTold_0 : decode cX5_lampTold 0 = .ok (.aload_n 0, 1) := by decide +kernel
theorem dX5_lampTold_1 : decode cX5_lampTold 1 = .ok (.getfield 26, 3) := by decide +kernel
theorem dX5_lampTold_4 : decode cX5_lampTold 4 = .ok (.iconst 4, 1) := by decide +kernel
theorem dX5_lampTold_5 : decode cX5_lampTold 5 = .ok (.iload_n 1, 1) := by decide +kernel
theorem dX5_lampTold_6 : decode cX5_lampTold 6 = .ok (.imul, 1) := by decide +kernel
theorem dX5_lampTold_7 : decode cX5_lampTold 7 = .ok (.iaload, 1) := by decide +kernel
theorem dX5_lampTold_8 : decode cX5_lampTold 8 = .ok (.istore_n 3, 1) := by decide +kernel
theorem dX5_lampTold_9 : decode cX5_lampTold 9 = .ok (.iload_n 2, 1) := by decide +kernel
theorem dX5_lampTold_10 : decode cX5_lampTold 10 = .ok (.ifCond .ne 12, 3) := by decide +kernel
theorem dX5_lampTold_13 : decode cX5_lampTold 13 = .ok (.iload_n 3, 1) := by decide +kernel
theorem dX5_lampTold_14 : decode cX5_lampTold 14 = .ok (.bipush 12, 2) := by decide +kernel
theorem dX5_lampTold_16 : decode cX5_lampTold 16 = .ok (.irem, 1) := by decide +kernel
theorem dX5_lampTold_17 : decode cX5_lampTold 17 = .ok (.iconst 1, 1) := by decide +kernel
theorem dX5_lampTold_18 : decode cX5_lampTold 18 = .ok (.isub, 1) := by decide +kernel
theorem dX5_lampTold_19 : decode cX5_lampTold 19 = .ok (.goto 29, 3) := by decide +kernel
theorem dX5_lampTold_22 : decode cX5_lampTold 22 = .ok (.iload_n 2, 1) := by decide +kernel
theorem dX5_lampTold_23 : decode cX5_lampTold 23 = .ok (.iconst 1, 1) := by decide +kernel
theorem dX5_lampTold_24 : decode cX5_lampTold 24 = .ok (.if_icmp .ne 12, 3) := by decide +kernel
theorem dX5_lampTold_27 : decode cX5_lampTold 27 = .ok (.iload_n 3, 1) := by decide +kernel
theorem dX5_lampTold_28 : decode cX5_lampTold 28 = .ok (.bipush 12, 2) := by decide +kernel
theorem dX5_lampTold_30 : decode cX5_lampTold 30 = .ok (.idiv, 1) := by decide +kernel
theorem dX5_lampTold_31 : decode cX5_lampTold 31 = .ok (.iconst 1, 1) := by decide +kernel
theorem dX5_lampTold_32 : decode cX5_lampTold 32 = .ok (.isub, 1) := by decide +kernel
theorem dX5_lampTold_33 : decode cX5_lampTold 33 = .ok (.goto 15, 3) := by decide +kernel
theorem dX5_lampTold_36 : decode cX5_lampTold 36 = .ok (.aload_n 0, 1) := by decide +kernel
theorem dX5_lampTold_37 : decode cX5_lampTold 37 = .ok (.getfield 26, 3) := by decide +kernel
theorem dX5_lampTold_40 : decode cX5_lampTold 40 = .ok (.iconst 4, 1) := by decide +kernel
theorem dX5_lampTold_41 : decode cX5_lampTold 41 = .ok (.iload_n 1, 1) := by decide +kernel
theorem dX5_lampTold_42 : decode cX5_lampTold 42 = .ok (.imul, 1) := by decide +kernel
theorem dX5_lampTold_43 : decode cX5_lampTold 43 = .ok (.iload_n 2, 1) := by decide +kernel
theorem dX5_lampTold_44 : decode cX5_lampTold 44 = .ok (.iadd, 1) := by decide +kernel
theorem dX5_lampTold_45 : decode cX5_lampTold 45 = .ok (.iconst 1, 1) := by decide +kernel
theorem dX5_lampTold_46 : decode cX5_lampTold 46 = .ok (.isub, 1) := by decide +kernel
theorem dX5_lampTold_47 : decode cX5_lampTold 47 = .ok (.iaload, 1) := by decide +kernel
theorem dX5_lampTold_48 : decode cX5_lampTold 48 = .ok (.ireturn, 1) := by decide +kernel
set_option maxRecDepth 20000 in
theorem ggX5_about_X5_isIn : GoodIn wsX5_about wsX5_isIn := goodIn_r _ [6] (by decide +kernel) (by decide +kernel)
set_option maxRecDepth 20000 in
theorem gX5_about_X5_isIn : GoodIn wsX5_about (va_wsS RX5 44 yX5_isIn wsX5_isIn) := goodIn_app (goodIn_of _ (by decide +kernel)) ggX5_about_X5_isIn
set_option maxRecDepth 20000 in
theorem ggX5_about_X5_lampTold : GoodIn wsX5_about wsX5_lampTold := goodIn_r _ [10, 11, 16, 17, 18, 19, 20, 21, 22, 23, 24, 25, 26, 27, 28, 29] (by decide +kernel) (by decide +kernel)
set_option maxRecDepth 20000 in
theorem gX5_about_X5_lampTold : GoodIn wsX5_about (wsV RX5 123 RX5 yX5_lampTold wsX5_lampTold) := goodIn_app (goodIn_of _ (by decide +kernel)) ggX5_about_X5_lampTold
set_option maxRecDepth 20000 in
theorem ggX5_about_X5_fail : GoodIn wsX5_about wsX5_fail := goodIn_r _ [15, 1, 16, 17, 18, 19, 20, 21, 22, 23, 24, 25, 26, 27, 28, 29] (by decide +kernel) (by decide +kernel)
set_option maxRecDepth 20000 in
theorem gX5_about_X5_fail : GoodIn wsX5_about (wsV RX5 74 RX5 yX5_fail wsX5_fail) := goodIn_app (goodIn_of _ (by decide +kernel)) ggX5_about_X5_fail
theorem dX5_about_0 : decode cX5_about 0 = .ok (.aload_n 0, 1) := by decide +kernel
theorem dX5_about_1 : decode cX5_about 1 = .ok (.iconst 0, 1) := by decide +kernel
theorem dX5_about_2 : decode cX5_about 2 = .ok (.putfield 41, 3) := by decide +kernel
theorem dX5_about_5 : decode cX5_about 5 = .ok (.iload_n 1, 1) := by decide +kernel
theorem dX5_about_6 : decode cX5_about 6 = .ok (.iconst 0, 1) := by decide +kernel
theorem dX5_about_7 : decode cX5_about 7 = .ok (.aload_n 0, 1) := by decide +kernel
theorem dX5_about_8 : decode cX5_about 8 = .ok (.getfield 65, 3) := by decide +kernel
theorem dX5_about_11 : decode cX5_about 11 = .ok (.iconst 1, 1) := by decide +kernel
theorem dX5_about_12 : decode cX5_about 12 = .ok (.isub, 1) := by decide +kernel
theorem dX5_about_13 : decode cX5_about 13 = .ok (.invokestatic 44, 3) := by decide +kernel
theorem dX5_about_16 : decode cX5_about 16 = .ok (.ifCond .eq 21, 3) := by decide +kernel
theorem dX5_about_19 : decode cX5_about 19 = .ok (.iload_n 2, 1) := by decide +kernel
theorem dX5_about_20 : decode cX5_about 20 = .ok (.iconst 0, 1) := by decide +kernel
theorem dX5_about_21 : decode cX5_about 21 = .ok (.iconst 3, 1) := by decide +kernel
theorem dX5_about_22 : decode cX5_about 22 = .ok (.invokestatic 44, 3) := by decide +kernel
theorem dX5_about_25 : decode cX5_about 25 = .ok (.ifCond .eq 12, 3) := by decide +kernel
theorem dX5_about_28 : decode cX5_about 28 = .ok (.aload_n 0, 1) := by decide +kernel
theorem dX5_about_29 : decode cX5_about 29 = .ok (.iload_n 1, 1) := by decide +kernel
theorem dX5_about_30 : decode cX5_about 30 = .ok (.iload_n 2, 1) := by decide +kernel
theorem dX5_about_31 : decode cX5_about 31 = .ok (.invokevirtual 123, 3) := by decide +kernel
theorem dX5_about_34 : decode cX5_about 34 = .ok (.goto 8, 3) := by decide +kernel
theorem dX5_about_37 : decode cX5_about 37 = .ok (.aload_n 0, 1) := by decide +kernel
theorem dX5_about_38 : decode cX5_about 38 = .ok (.iconst 1, 1) := by decide +kernel
theorem dX5_about_39 : decode cX5_about 39 = .ok (.invokevirtual 74, 3) := by decide +kernel
theorem dX5_about_42 : decode cX5_about 42 = .ok (.ireturn, 1) := by decide +kernel
set_option maxRecDepth 20000 in
theorem ggX5_pieces_X5_cell : GoodIn wsX5_pieces wsX5_cell := goodIn_r _ [13, 1, 14, 15, 12, 16, 23, 24, 25, 26, 27, 28, 29, 30, 31, 32, 33, 34, 35, 36] (by decide +kernel) (by decide +kernel)
set_option maxRecDepth 20000 in
theorem gX5_pieces_X5_cell : GoodIn wsX5_pieces (wsV RX5 58 RX5 yX5_cell wsX5_cell) := goodIn_app (goodIn_of _ (by decide +kernel)) ggX5_pieces_X5_cell
set_option maxRecDepth 20000 in
theorem ggX5_pieces_X5_spread : GoodIn wsX5_pieces wsX5_spread := goodIn_r _ [20, 8, 21, 22, 3, 23, 24, 25, 26, 27, 28, 29, 30, 31, 32, 33, 34, 35, 36] (by decide +kernel) (by decide +kernel)
set_option maxRecDepth 20000 in
theorem gX5_pieces_X5_spread : GoodIn wsX5_pieces (wsV RX5 114 RX5 yX5_spread wsX5_spread) := goodIn_app (goodIn_of _ (by decide +kernel)) ggX5_pieces_X5_spread
theorem dX5_pieces_0 : decode cX5_pieces 0 = .ok (.iconst 0, 1) := by decide +kernel
theorem dX5_pieces_1 : decode cX5_pieces 1 = .ok (.istore_n 2, 1) := by decide +kernel
theorem dX5_pieces_2 : decode cX5_pieces 2 = .ok (.iconst 0, 1) := by decide +kernel
theorem dX5_pieces_3 : decode cX5_pieces 3 = .ok (.istore_n 3, 1) := by decide +kernel
theorem dX5_pieces_4 : decode cX5_pieces 4 = .ok (.iconst 0, 1) := by decide +kernel
theorem dX5_pieces_5 : decode cX5_pieces 5 = .ok (.istore 4, 2) := by decide +kernel
theorem dX5_pieces_7 : decode cX5_pieces 7 = .ok (.iload 4, 2) := by decide +kernel
theorem dX5_pieces_9 : decode cX5_pieces 9 = .ok (.aload_n 0, 1) := by decide +kernel
theorem dX5_pieces_10 : decode cX5_pieces 10 = .ok (.getfield 7, 3) := by decide +kernel
theorem dX5_pieces_13 : decode cX5_pieces 13 = .ok (.aload_n 0, 1) := by decide +kernel
theorem dX5_pieces_14 : decode cX5_pieces 14 = .ok (.getfield 13, 3) := by decide +kernel
theorem dX5_pieces_17 : decode cX5_pieces 17 = .ok (.imul, 1) := by decide +kernel
theorem dX5_pieces_18 : decode cX5_pieces 18 = .ok (.if_icmp .ge 104, 3) := by decide +kernel
theorem dX5_pieces_21 : decode cX5_pieces 21 = .ok (.aload_n 0, 1) := by decide +kernel
theorem dX5_pieces_22 : decode cX5_pieces 22 = .ok (.getfield 16, 3) := by decide +kernel
theorem dX5_pieces_25 : decode cX5_pieces 25 = .ok (.aload_n 0, 1) := by decide +kernel
theorem dX5_pieces_26 : decode cX5_pieces 26 = .ok (.iload 4, 2) := by decide +kernel
theorem dX5_pieces_28 : decode cX5_pieces 28 = .ok (.invokevirtual 58, 3) := by decide +kernel
theorem dX5_pieces_31 : decode cX5_pieces 31 = .ok (.iaload, 1) := by decide +kernel
theorem dX5_pieces_32 : decode cX5_pieces 32 = .ok (.ifCond .ne 6, 3) := by decide +kernel
theorem dX5_pieces_35 : decode cX5_pieces 35 = .ok (.goto 81, 3) := by decide +kernel
theorem dX5_pieces_38 : decode cX5_pieces 38 = .ok (.aload_n 0, 1) := by decide +kernel
theorem dX5_pieces_39 : decode cX5_pieces 39 = .ok (.aload_n 0, 1) := by decide +kernel
theorem dX5_pieces_40 : decode cX5_pieces 40 = .ok (.iload 4, 2) := by decide +kernel
theorem dX5_pieces_42 : decode cX5_pieces 42 = .ok (.invokevirtual 58, 3) := by decide +kernel
theorem dX5_pieces_45 : decode cX5_pieces 45 = .ok (.invokevirtual 114, 3) := by decide +kernel
theorem dX5_pieces_48 : decode cX5_pieces 48 = .ok (.istore 5, 2) := by decide +kernel
theorem dX5_pieces_50 : decode cX5_pieces 50 = .ok (.iload_n 3, 1) := by decide +kernel
theorem dX5_pieces_51 : decode cX5_pieces 51 = .ok (.iload 5, 2) := by decide +kernel
theorem dX5_pieces_53 : decode cX5_pieces 53 = .ok (.invokestatic 126, 3) := by decide +kernel
theorem dX5_pieces_56 : decode cX5_pieces 56 = .ok (.istore_n 3, 1) := by decide +kernel
theorem dX5_pieces_57 : decode cX5_pieces 57 = .ok (.iconst 1, 1) := by decide +kernel
theorem dX5_pieces_58 : decode cX5_pieces 58 = .ok (.istore 6, 2) := by decide +kernel
theorem dX5_pieces_60 : decode cX5_pieces 60 = .ok (.iconst 0, 1) := by decide +kernel
theorem dX5_pieces_61 : decode cX5_pieces 61 = .ok (.istore 7, 2) := by decide +kernel
theorem dX5_pieces_63 : decode cX5_pieces 63 = .ok (.iload 7, 2) := by decide +kernel
theorem dX5_pieces_65 : decode cX5_pieces 65 = .ok (.iload 4, 2) := by decide +kernel
theorem dX5_pieces_67 : decode cX5_pieces 67 = .ok (.if_icmp .ge 36, 3) := by decide +kernel
theorem dX5_pieces_70 : decode cX5_pieces 70 = .ok (.iload 6, 2) := by decide +kernel
theorem dX5_pieces_72 : decode cX5_pieces 72 = .ok (.ifCond .eq 22, 3) := by decide +kernel
theorem dX5_pieces_75 : decode cX5_pieces 75 = .ok (.aload_n 0, 1) := by decide +kernel
theorem dX5_pieces_76 : decode cX5_pieces 76 = .ok (.getfield 35, 3) := by decide +kernel
theorem dX5_pieces_79 : decode cX5_pieces 79 = .ok (.aload_n 0, 1) := by decide +kernel
theorem dX5_pieces_80 : decode cX5_pieces 80 = .ok (.iload 7, 2) := by decide +kernel
theorem dX5_pieces_82 : decode cX5_pieces 82 = .ok (.invokevirtual 58, 3) := by decide +kernel
theorem dX5_pieces_85 : decode cX5_pieces 85 = .ok (.iaload, 1) := by decide +kernel
theorem dX5_pieces_86 : decode cX5_pieces 86 = .ok (.iconst (-1), 1) := by decide +kernel
theorem dX5_pieces_87 : decode cX5_pieces 87 = .ok (.if_icmp .ne 7, 3) := by decide +kernel
theorem dX5_pieces_90 : decode cX5_pieces 90 = .ok (.iconst 1, 1) := by decide +kernel
theorem dX5_pieces_91 : decode cX5_pieces 91 = .ok (.goto 4, 3) := by decide +kernel
theorem dX5_pieces_94 : decode cX5_pieces 94 = .ok (.iconst 0, 1) := by decide +kernel
theorem dX5_pieces_95 : decode cX5_pieces 95 = .ok (.istore 6, 2) := by decide +kernel
theorem dX5_pieces_97 : decode cX5_pieces 97 = .ok (.iinc 7 1, 3) := by decide +kernel
theorem dX5_pieces_100 : decode cX5_pieces 100 = .ok (.goto (-37), 3) := by decide +kernel
theorem dX5_pieces_103 : decode cX5_pieces 103 = .ok (.iload_n 2, 1) := by decide +kernel
theorem dX5_pieces_104 : decode cX5_pieces 104 = .ok (.iload 6, 2) := by decide +kernel
theorem dX5_pieces_106 : decode cX5_pieces 106 = .ok (.ifCond .eq 7, 3) := by decide +kernel
theorem dX5_pieces_109 : decode cX5_pieces 109 = .ok (.iconst 1, 1) := by decide +kernel
theorem dX5_pieces_110 : decode cX5_pieces 110 = .ok (.goto 4, 3) := by decide +kernel
theorem dX5_pieces_113 : decode cX5_pieces 113 = .ok (.iconst 0, 1) := by decide +kernel
theorem dX5_pieces_114 : decode cX5_pieces 114 = .ok (.iadd, 1) := by decide +kernel
theorem dX5_pieces_115 : decode cX5_pieces 115 = .ok (.istore_n 2, 1) := by decide +kernel
theorem dX5_pieces_116 : decode cX5_pieces 116 = .ok (.iinc 4 1, 3) := by decide +kernel
theorem dX5_pieces_119 : decode cX5_pieces 119 = .ok (.goto (-112), 3) := by decide +kernel
theorem dX5_pieces_122 : decode cX5_pieces 122 = .ok (.iload_n 1, 1) := by decide +kernel
theorem dX5_pieces_123 : decode cX5_pieces 123 = .ok (.ifCond .eq 7, 3) := by decide +kernel
theorem dX5_pieces_126 : decode cX5_pieces 126 = .ok (.iload_n 3, 1) := by decide +kernel
theorem dX5_pieces_127 : decode cX5_pieces 127 = .ok (.goto 4, 3) := by decide +kernel
theorem dX5_pieces_130 : decode cX5_pieces 130 = .ok (.iload_n 2, 1) := by decide +kernel
theorem dX5_pieces_131 : decode cX5_pieces 131 = .ok (.ireturn, 1) := by decide +kernel
theorem dX5_lit_0 : decode cX5_lit 0 = .ok (.iconst 0, 1) := by decide +kernel
theorem dX5_lit_1 : decode cX5_lit 1 = .ok (.istore_n 1, 1) := by decide +kernel
theorem dX5_lit_2 : decode cX5_lit 2 = .ok (.iconst 0, 1) := by decide +kernel
theorem dX5_lit_3 : decode cX5_lit 3 = .ok (.istore_n 2, 1) := by decide +kernel
theorem dX5_lit_4 : decode cX5_lit 4 = .ok (.iload_n 2, 1) := by decide +kernel
theorem dX5_lit_5 : decode cX5_lit 5 = .ok (.aload_n 0, 1) := by decide +kernel
theorem dX5_lit_6 : decode cX5_lit 6 = .ok (.getfield 65, 3) := by decide +kernel
theorem dX5_lit_9 : decode cX5_lit 9 = .ok (.if_icmp .ge 22, 3) := by decide +kernel
theorem dX5_lit_12 : decode cX5_lit 12 = .ok (.iload_n 1, 1) := by decide +kernel
theorem dX5_lit_13 : decode cX5_lit 13 = .ok (.aload_n 0, 1) := by decide +kernel
theorem dX5_lit_14 : decode cX5_lit 14 = .ok (.getfield 26, 3) := by decide +kernel
theorem dX5_lit_17 : decode cX5_lit 17 = .ok (.iconst 4, 1) := by decide +kernel
theorem dX5_lit_18 : decode cX5_lit 18 = .ok (.iload_n 2, 1) := by decide +kernel
theorem dX5_lit_19 : decode cX5_lit 19 = .ok (.imul, 1) := by decide +kernel
theorem dX5_lit_20 : decode cX5_lit 20 = .ok (.iconst 1, 1) := by decide +kernel
theorem dX5_lit_21 : decode cX5_lit 21 = .ok (.iadd, 1) := by decide +kernel
theorem dX5_lit_22 : decode cX5_lit 22 = .ok (.iaload, 1) := by decide +kernel
theorem dX5_lit_23 : decode cX5_lit 23 = .ok (.iadd, 1) := by decide +kernel
theorem dX5_lit_24 : decode cX5_lit 24 = .ok (.istore_n 1, 1) := by decide +kernel
theorem dX5_lit_25 : decode cX5_lit 25 = .ok (.iinc 2 1, 3) := by decide +kernel
theorem dX5_lit_28 : decode cX5_lit 28 = .ok (.goto (-24), 3) := by decide +kernel
theorem dX5_lit_31 : decode cX5_lit 31 = .ok (.iload_n 1, 1) := by decide +kernel
theorem dX5_lit_32 : decode cX5_lit 32 = .ok (.ireturn, 1) := by decide +kernel
set_option maxRecDepth 20000 in
theorem ggX5_counted_X5_cells : GoodIn wsX5_counted wsX5_cells := goodIn_r _ [9, 2, 3, 10, 11, 12, 13, 8, 14, 15, 16, 17, 38, 39, 40, 41, 42, 43, 44, 45, 46, 47, 48, 49, 50, 51] (by decide +kernel) (by decide +kernel)
set_option maxRecDepth 20000 in
theorem gX5_counted_X5_cells : GoodIn wsX5_counted (wsV RX5 98 RX5 yX5_cells wsX5_cells) := goodIn_app (goodIn_of _ (by decide +kernel)) ggX5_counted_X5_cells
set_option maxRecDepth 20000 in
theorem ggX5_counted_X5_pieces : GoodIn wsX5_counted wsX5_pieces := goodIn_r _ [21, 2, 3, 10, 22, 23, 24, 25, 26, 11, 12, 13, 8, 14, 15, 16, 17, 27, 28, 29, 30, 31, 32, 38, 39, 40, 41, 42, 43, 44, 45, 46, 47, 48, 49, 50, 51] (by decide +kernel) (by decide +kernel)
set_option maxRecDepth 20000 in
theorem gX5_counted_X5_pieces : GoodIn wsX5_counted (wsV RX5 129 RX5 yX5_pieces wsX5_pieces) := goodIn_app (goodIn_of _ (by decide +kernel)) ggX5_counted_X5_pieces
set_option maxRecDepth 20000 in
theorem ggX5_counted_X5_lit : GoodIn wsX5_counted wsX5_lit := goodIn_r _ [36, 4, 37, 38, 39, 40, 41, 42, 43, 44, 45, 46, 47, 48, 49, 50, 51] (by decide +kernel) (by decide +kernel)
set_option maxRecDepth 20000 in
theorem gX5_counted_X5_lit : GoodIn wsX5_counted (wsV RX5 133 RX5 yX5_lit wsX5_lit) := goodIn_app (goodIn_of _ (by decide +kernel)) ggX5_counted_X5_lit
theorem dX5_counted_0 : decode cX5_counted 0 = .ok (.iload_n 1, 1) := by decide +kernel
theorem dX5_counted_1 : decode cX5_counted 1 = .ok (.tableswitch 101 0 8 #[51, 56, 61, 66, 72, 78, 84, 90, 96], 51) := by decide +kernel
theorem dX5_counted_52 : decode cX5_counted 52 = .ok (.aload_n 0, 1) := by decide +kernel
theorem dX5_counted_53 : decode cX5_counted 53 = .ok (.getfield 104, 3) := by decide +kernel
theorem dX5_counted_56 : decode cX5_counted 56 = .ok (.ireturn, 1) := by decide +kernel
theorem dX5_counted_57 : decode cX5_counted 57 = .ok (.aload_n 0, 1) := by decide +kernel
theorem dX5_counted_58 : decode cX5_counted 58 = .ok (.getfield 7, 3) := by decide +kernel
theorem dX5_counted_61 : decode cX5_counted 61 = .ok (.ireturn, 1) := by decide +kernel
theorem dX5_counted_62 : decode cX5_counted 62 = .ok (.aload_n 0, 1) := by decide +kernel
theorem dX5_counted_63 : decode cX5_counted 63 = .ok (.getfield 13, 3) := by decide +kernel
theorem dX5_counted_66 : decode cX5_counted 66 = .ok (.ireturn, 1) := by decide +kernel
theorem dX5_counted_67 : decode cX5_counted 67 = .ok (.aload_n 0, 1) := by decide +kernel
theorem dX5_counted_68 : decode cX5_counted 68 = .ok (.iconst 1, 1) := by decide +kernel
theorem dX5_counted_69 : decode cX5_counted 69 = .ok (.invokevirtual 98, 3) := by decide +kernel
theorem dX5_counted_72 : decode cX5_counted 72 = .ok (.ireturn, 1) := by decide +kernel
theorem dX5_counted_73 : decode cX5_counted 73 = .ok (.aload_n 0, 1) := by decide +kernel
theorem dX5_counted_74 : decode cX5_counted 74 = .ok (.iconst 2, 1) := by decide +kernel
theorem dX5_counted_75 : decode cX5_counted 75 = .ok (.invokevirtual 98, 3) := by decide +kernel
theorem dX5_counted_78 : decode cX5_counted 78 = .ok (.ireturn, 1) := by decide +kernel
theorem dX5_counted_79 : decode cX5_counted 79 = .ok (.aload_n 0, 1) := by decide +kernel
theorem dX5_counted_80 : decode cX5_counted 80 = .ok (.iconst 3, 1) := by decide +kernel
theorem dX5_counted_81 : decode cX5_counted 81 = .ok (.invokevirtual 98, 3) := by decide +kernel
theorem dX5_counted_84 : decode cX5_counted 84 = .ok (.ireturn, 1) := by decide +kernel
theorem dX5_counted_85 : decode cX5_counted 85 = .ok (.aload_n 0, 1) := by decide +kernel
theorem dX5_counted_86 : decode cX5_counted 86 = .ok (.iconst 0, 1) := by decide +kernel
theorem dX5_counted_87 : decode cX5_counted 87 = .ok (.invokevirtual 129, 3) := by decide +kernel
theorem dX5_counted_90 : decode cX5_counted 90 = .ok (.ireturn, 1) := by decide +kernel
theorem dX5_counted_91 : decode cX5_counted 91 = .ok (.aload_n 0, 1) := by decide +kernel
theorem dX5_counted_92 : decode cX5_counted 92 = .ok (.iconst 1, 1) := by decide +kernel
theorem dX5_counted_93 : decode cX5_counted 93 = .ok (.invokevirtual 129, 3) := by decide +kernel
theorem dX5_counted_96 : decode cX5_counted 96 = .ok (.ireturn, 1) := by decide +kernel
theorem dX5_counted_97 : decode cX5_counted 97 = .ok (.aload_n 0, 1) := by decide +kernel
theorem dX5_counted_98 : decode cX5_counted 98 = .ok (.getfield 65, 3) := by decide +kernel
theorem dX5_counted_101 : decode cX5_counted 101 = .ok (.ireturn, 1) := by decide +kernel
theorem dX5_counted_102 : decode cX5_counted 102 = .ok (.aload_n 0, 1) := by decide +kernel
theorem dX5_counted_103 : decode cX5_counted 103 = .ok (.invokevirtual 133, 3) := by decide +kernel
theorem dX5_counted_106 : decode cX5_counted 106 = .ok (.ireturn, 1) := by decide +kernel
set_option maxRecDepth 20000 in
theorem ggX5_count_X5_isIn : GoodIn wsX5_count wsX5_isIn := goodIn_r _ [5] (by decide +kernel) (by decide +kernel)
set_option maxRecDepth 20000 in
theorem gX5_count_X5_isIn : GoodIn wsX5_count (va_wsS RX5 44 yX5_isIn wsX5_isIn) := goodIn_app (goodIn_of _ (by decide +kernel)) ggX5_count_X5_isIn
set_option maxRecDepth 20000 in
theorem ggX5_count_X5_counted : GoodIn wsX5_count wsX5_counted := goodIn_r _ [9, 10, 11, 12, 13, 14, 15, 16, 4, 17, 18, 19, 20, 21, 22, 23, 24, 25, 26, 27, 28, 29, 30, 31, 32, 33, 34, 35, 36, 37, 38, 39, 40, 41, 42, 43, 44, 45, 50, 51, 52, 53, 54, 55, 56, 57, 58, 59, 60, 61, 62, 63] (by decide +kernel) (by decide +kernel)
set_option maxRecDepth 20000 in
theorem gX5_count_X5_counted : GoodIn wsX5_count (wsV RX5 137 RX5 yX5_counted wsX5_counted) := goodIn_app (goodIn_of _ (by decide +kernel)) ggX5_count_X5_counted
set_option maxRecDepth 20000 in
theorem ggX5_count_X5_fail : GoodIn wsX5_count wsX5_fail := goodIn_r _ [49, 1, 50, 51, 52, 53, 54, 55, 56, 57, 58, 59, 60, 61, 62, 63] (by decide +kernel) (by decide +kernel)
set_option maxRecDepth 20000 in
theorem gX5_count_X5_fail : GoodIn wsX5_count (wsV RX5 74 RX5 yX5_fail wsX5_fail) := goodIn_app (goodIn_of _ (by decide +kernel)) ggX5_count_X5_fail
theorem dX5_count_0 : decode cX5_count 0 = .ok (.aload_n 0, 1) := by decide +kernel
theorem dX5_count_1 : decode cX5_count 1 = .ok (.iconst 0, 1) := by decide +kernel
theorem dX5_count_2 : decode cX5_count 2 = .ok (.putfield 41, 3) := by decide +kernel
theorem dX5_count_5 : decode cX5_count 5 = .ok (.iload_n 1, 1) := by decide +kernel
theorem dX5_count_6 : decode cX5_count 6 = .ok (.iconst 0, 1) := by decide +kernel
theorem dX5_count_7 : decode cX5_count 7 = .ok (.bipush 9, 2) := by decide +kernel
theorem dX5_count_9 : decode cX5_count 9 = .ok (.invokestatic 44, 3) := by decide +kernel
theorem dX5_count_12 : decode cX5_count 12 = .ok (.ifCond .eq 11, 3) := by decide +kernel
theorem dX5_count_15 : decode cX5_count 15 = .ok (.aload_n 0, 1) := by decide +kernel
theorem dX5_count_16 : decode cX5_count 16 = .ok (.iload_n 1, 1) := by decide +kernel
theorem dX5_count_17 : decode cX5_count 17 = .ok (.invokevirtual 137, 3) := by decide +kernel
theorem dX5_count_20 : decode cX5_count 20 = .ok (.goto 8, 3) := by decide +kernel
theorem dX5_count_23 : decode cX5_count 23 = .ok (.aload_n 0, 1) := by decide +kernel
theorem dX5_count_24 : decode cX5_count 24 = .ok (.iconst 1, 1) := by decide +kernel
theorem dX5_count_25 : decode cX5_count 25 = .ok (.invokevirtual 74, 3) := by decide +kernel
theorem dX5_count_28 : decode cX5_count 28 = .ok (.ireturn, 1) := by decide +kernel
set_option maxRecDepth 20000 in
theorem ggX5_way_X5_isCell : GoodIn wsX5_way wsX5_isCell := goodIn_r _ [8, 9, 10, 11, 12, 7, 13, 27, 28, 29, 30, 31, 32, 33, 34, 35, 36, 37, 38, 39, 40] (by decide +kernel) (by decide +kernel)
set_option maxRecDepth 20000 in
theorem gX5_way_X5_isCell : GoodIn wsX5_way (wsV RX5 77 RX5 yX5_isCell wsX5_isCell) := goodIn_app (goodIn_of _ (by decide +kernel)) ggX5_way_X5_isCell
set_option maxRecDepth 20000 in
theorem ggX5_way_X5_fail : GoodIn wsX5_way wsX5_fail := goodIn_r _ [17, 1, 27, 28, 29, 30, 31, 32, 33, 34, 35, 36, 37, 38, 39, 40] (by decide +kernel) (by decide +kernel)
set_option maxRecDepth 20000 in
theorem gX5_way_X5_fail : GoodIn wsX5_way (wsV RX5 74 RX5 yX5_fail wsX5_fail) := goodIn_app (goodIn_of _ (by decide +kernel)) ggX5_way_X5_fail
set_option maxRecDepth 20000 in
theorem ggX5_way_X5_at : GoodIn wsX5_way wsX5_at := goodIn_r _ [20] (by decide +kernel) (by decide +kernel)
set_option maxRecDepth 20000 in
theorem gX5_way_X5_at : GoodIn wsX5_way (va_wsS RX5 48 yX5_at wsX5_at) := goodIn_app (goodIn_of _ (by decide +kernel)) ggX5_way_X5_at
set_option maxRecDepth 20000 in
theorem ggX5_way_X5_spread : GoodIn wsX5_way wsX5_spread := goodIn_r _ [24, 3, 25, 26, 2, 27, 28, 29, 30, 31, 32, 33, 34, 35, 36, 37, 38, 39, 40] (by decide +kernel) (by decide +kernel)
set_option maxRecDepth 20000 in
theorem gX5_way_X5_spread : GoodIn wsX5_way (wsV RX5 114 RX5 yX5_spread wsX5_spread) := goodIn_app (goodIn_of _ (by decide +kernel)) ggX5_way_X5_spread
theorem dX5_way_0 : decode cX5_way 0 = .ok (.aload_n 0, 1) := by decide +kernel
theorem dX5_way_1 : decode cX5_way 1 = .ok (.iconst 0, 1) := by decide +kernel
theorem dX5_way_2 : decode cX5_way 2 = .ok (.putfield 41, 3) := by decide +kernel
theorem dX5_way_5 : decode cX5_way 5 = .ok (.aload_n 0, 1) := by decide +kernel
theorem dX5_way_6 : decode cX5_way 6 = .ok (.iload_n 1, 1) := by decide +kernel
theorem dX5_way_7 : decode cX5_way 7 = .ok (.iload_n 2, 1) := by decide +kernel
theorem dX5_way_8 : decode cX5_way 8 = .ok (.invokevirtual 77, 3) := by decide +kernel
theorem dX5_way_11 : decode cX5_way 11 = .ok (.ifCond .eq 13, 3) := by decide +kernel
theorem dX5_way_14 : decode cX5_way 14 = .ok (.aload_n 0, 1) := by decide +kernel
theorem dX5_way_15 : decode cX5_way 15 = .ok (.iload_n 3, 1) := by decide +kernel
theorem dX5_way_16 : decode cX5_way 16 = .ok (.iload 4, 2) := by decide +kernel
theorem dX5_way_18 : decode cX5_way 18 = .ok (.invokevirtual 77, 3) := by decide +kernel
theorem dX5_way_21 : decode cX5_way 21 = .ok (.ifCond .ne 9, 3) := by decide +kernel
theorem dX5_way_24 : decode cX5_way 24 = .ok (.aload_n 0, 1) := by decide +kernel
theorem dX5_way_25 : decode cX5_way 25 = .ok (.iconst 1, 1) := by decide +kernel
theorem dX5_way_26 : decode cX5_way 26 = .ok (.invokevirtual 74, 3) := by decide +kernel
theorem dX5_way_29 : decode cX5_way 29 = .ok (.ireturn, 1) := by decide +kernel
theorem dX5_way_30 : decode cX5_way 30 = .ok (.aload_n 0, 1) := by decide +kernel
theorem dX5_way_31 : decode cX5_way 31 = .ok (.getfield 16, 3) := by decide +kernel
theorem dX5_way_34 : decode cX5_way 34 = .ok (.iload_n 1, 1) := by decide +kernel
theorem dX5_way_35 : decode cX5_way 35 = .ok (.iload_n 2, 1) := by decide +kernel
theorem dX5_way_36 : decode cX5_way 36 = .ok (.invokestatic 48, 3) := by decide +kernel
theorem dX5_way_39 : decode cX5_way 39 = .ok (.iaload, 1) := by decide +kernel
theorem dX5_way_40 : decode cX5_way 40 = .ok (.ifCond .eq 17, 3) := by decide +kernel
theorem dX5_way_43 : decode cX5_way 43 = .ok (.aload_n 0, 1) := by decide +kernel
theorem dX5_way_44 : decode cX5_way 44 = .ok (.getfield 16, 3) := by decide +kernel
theorem dX5_way_47 : decode cX5_way 47 = .ok (.iload_n 3, 1) := by decide +kernel
theorem dX5_way_48 : decode cX5_way 48 = .ok (.iload 4, 2) := by decide +kernel
theorem dX5_way_50 : decode cX5_way 50 = .ok (.invokestatic 48, 3) := by decide +kernel
theorem dX5_way_53 : decode cX5_way 53 = .ok (.iaload, 1) := by decide +kernel
theorem dX5_way_54 : decode cX5_way 54 = .ok (.ifCond .ne 5, 3) := by decide +kernel
theorem dX5_way_57 : decode cX5_way 57 = .ok (.iconst (-1), 1) := by decide +kernel
theorem dX5_way_58 : decode cX5_way 58 = .ok (.ireturn, 1) := by decide +kernel
theorem dX5_way_59 : decode cX5_way 59 = .ok (.aload_n 0, 1) := by decide +kernel
theorem dX5_way_60 : decode cX5_way 60 = .ok (.iload_n 1, 1) := by decide +kernel
theorem dX5_way_61 : decode cX5_way 61 = .ok (.iload_n 2, 1) := by decide +kernel
theorem dX5_way_62 : decode cX5_way 62 = .ok (.invokestatic 48, 3) := by decide +kernel
theorem dX5_way_65 : decode cX5_way 65 = .ok (.invokevirtual 114, 3) := by decide +kernel
theorem dX5_way_68 : decode cX5_way 68 = .ok (.pop, 1) := by decide +kernel
theorem dX5_way_69 : decode cX5_way 69 = .ok (.aload_n 0, 1) := by decide +kernel
theorem dX5_way_70 : decode cX5_way 70 = .ok (.getfield 35, 3) := by decide +kernel
theorem dX5_way_73 : decode cX5_way 73 = .ok (.iload_n 3, 1) := by decide +kernel
theorem dX5_way_74 : decode cX5_way 74 = .ok (.iload 4, 2) := by decide +kernel
theorem dX5_way_76 : decode cX5_way 76 = .ok (.invokestatic 48, 3) := by decide +kernel
theorem dX5_way_79 : decode cX5_way 79 = .ok (.iaload, 1) := by decide +kernel
theorem dX5_way_80 : decode cX5_way 80 = .ok (.ireturn, 1) := by decide +kernel
theorem dX5_isAsIt_0 : decode cX5_isAsIt 0 = .ok (.iconst 0, 1) := by decide +kernel
theorem dX5_isAsIt_1 : decode cX5_isAsIt 1 = .ok (.istore_n 2, 1) := by decide +kernel
theorem dX5_isAsIt_2 : decode cX5_isAsIt 2 = .ok (.iload_n 2, 1) := by decide +kernel
theorem dX5_isAsIt_3 : decode cX5_isAsIt 3 = .ok (.sipush 144, 3) := by decide +kernel
theorem dX5_isAsIt_6 : decode cX5_isAsIt 6 = .ok (.if_icmp .ge 32, 3) := by decide +kernel
theorem dX5_isAsIt_9 : decode cX5_isAsIt 9 = .ok (.aload_n 0, 1) := by decide +kernel
theorem dX5_isAsIt_10 : decode cX5_isAsIt 10 = .ok (.getfield 32, 3) := by decide +kernel
theorem dX5_isAsIt_13 : decode cX5_isAsIt 13 = .ok (.sipush 144, 3) := by decide +kernel
theorem dX5_isAsIt_16 : decode cX5_isAsIt 16 = .ok (.iload_n 1, 1) := by decide +kernel
theorem dX5_isAsIt_17 : decode cX5_isAsIt 17 = .ok (.imul, 1) := by decide +kernel
theorem dX5_isAsIt_18 : decode cX5_isAsIt 18 = .ok (.iload_n 2, 1) := by decide +kernel
theorem dX5_isAsIt_19 : decode cX5_isAsIt 19 = .ok (.iadd, 1) := by decide +kernel
theorem dX5_isAsIt_20 : decode cX5_isAsIt 20 = .ok (.iaload, 1) := by decide +kernel
theorem dX5_isAsIt_21 : decode cX5_isAsIt 21 = .ok (.aload_n 0, 1) := by decide +kernel
theorem dX5_isAsIt_22 : decode cX5_isAsIt 22 = .ok (.getfield 16, 3) := by decide +kernel
theorem dX5_isAsIt_25 : decode cX5_isAsIt 25 = .ok (.iload_n 2, 1) := by decide +kernel
theorem dX5_isAsIt_26 : decode cX5_isAsIt 26 = .ok (.iaload, 1) := by decide +kernel
theorem dX5_isAsIt_27 : decode cX5_isAsIt 27 = .ok (.if_icmp .eq 5, 3) := by decide +kernel
theorem dX5_isAsIt_30 : decode cX5_isAsIt 30 = .ok (.iconst 0, 1) := by decide +kernel
theorem dX5_isAsIt_31 : decode cX5_isAsIt 31 = .ok (.ireturn, 1) := by decide +kernel
theorem dX5_isAsIt_32 : decode cX5_isAsIt 32 = .ok (.iinc 2 1, 3) := by decide +kernel
theorem dX5_isAsIt_35 : decode cX5_isAsIt 35 = .ok (.goto (-33), 3) := by decide +kernel
theorem dX5_isAsIt_38 : decode cX5_isAsIt 38 = .ok (.iconst 1, 1) := by decide +kernel
theorem dX5_isAsIt_39 : decode cX5_isAsIt 39 = .ok (.ireturn, 1) := by decide +kernel
set_option maxRecDepth 20000 in
theorem ggX5_period_X5_isIn : GoodIn wsX5_period wsX5_isIn := goodIn_r _ [11] (by decide +kernel) (by decide +kernel)
set_option maxRecDepth 20000 in
theorem gX5_period_X5_isIn : GoodIn wsX5_period (va_wsS RX5 44 yX5_isIn wsX5_isIn) := goodIn_app (goodIn_of _ (by decide +kernel)) ggX5_period_X5_isIn
set_option maxRecDepth 20000 in
theorem ggX5_period_X5_fail : GoodIn wsX5_period wsX5_fail := goodIn_r _ [15, 1, 54, 55, 56, 57, 58, 59, 60, 61, 62, 63, 64, 65, 66, 67] (by decide +kernel) (by decide +kernel)
set_option maxRecDepth 20000 in
theorem gX5_period_X5_fail : GoodIn wsX5_period (wsV RX5 74 RX5 yX5_fail wsX5_fail) := goodIn_app (goodIn_of _ (by decide +kernel)) ggX5_period_X5_fail
set_option maxRecDepth 20000 in
theorem ggX5_period_X5_keep : GoodIn wsX5_period wsX5_keep := goodIn_r _ [19, 2, 20, 4, 5, 6, 7, 21, 22, 54, 55, 56, 57, 58, 59, 60, 61, 62, 63, 64, 65, 66, 67] (by decide +kernel) (by decide +kernel)
set_option maxRecDepth 20000 in
theorem gX5_period_X5_keep : GoodIn wsX5_period (wsV RX5 140 RX5 yX5_keep wsX5_keep) := goodIn_app (goodIn_of _ (by decide +kernel)) ggX5_period_X5_keep
set_option maxRecDepth 20000 in
theorem ggX5_period_X5_isAsIt : GoodIn wsX5_period wsX5_isAsIt := goodIn_r _ [26, 3, 2, 54, 55, 56, 57, 58, 59, 60, 61, 62, 63, 64, 65, 66, 67] (by decide +kernel) (by decide +kernel)
set_option maxRecDepth 20000 in
theorem gX5_period_X5_isAsIt : GoodIn wsX5_period (wsV RX5 143 RX5 yX5_isAsIt wsX5_isAsIt) := goodIn_app (goodIn_of _ (by decide +kernel)) ggX5_period_X5_isAsIt
set_option maxRecDepth 20000 in
theorem ggX5_period_X5_step : GoodIn wsX5_period wsX5_step := goodIn_r _ [30, 31, 32, 33, 2, 34, 35, 36, 10, 37, 38, 39, 40, 41, 42, 43, 44, 45, 46, 47, 48, 49, 54, 55, 56, 57, 58, 59, 60, 61, 62, 63, 64, 65, 66, 67] (by decide +kernel) (by decide +kernel)
set_option maxRecDepth 20000 in
theorem gX5_period_X5_step : GoodIn wsX5_period (wsV RX5 101 RX5 yX5_step wsX5_step) := goodIn_app (goodIn_of _ (by decide +kernel)) ggX5_period_X5_step
set_option maxRecDepth 20000 in
theorem ggX5_period_X5_bringBack : GoodIn wsX5_period wsX5_bringBack := goodIn_r _ [53, 20, 2, 4, 5, 6, 7, 22, 21, 54, 55, 56, 57, 58, 59, 60, 61, 62, 63, 64, 65, 66, 67] (by decide +kernel) (by decide +kernel)
set_option maxRecDepth 20000 in
theorem gX5_period_X5_bringBack : GoodIn wsX5_period (wsV RX5 147 RX5 yX5_bringBack wsX5_bringBack) := goodIn_app (goodIn_of _ (by decide +kernel)) ggX5_period_X5_bringBack
theorem dX5_period_0 : decode cX5_period 0 = .ok (.aload_n 0, 1) := by decide +kernel
theorem dX5_period_1 : decode cX5_period 1 = .ok (.iconst 0, 1) := by decide +kernel
theorem dX5_period_2 : decode cX5_period 2 = .ok (.putfield 41, 3) := by decide +kernel
theorem dX5_period_5 : decode cX5_period 5 = .ok (.iload_n 1, 1) := by decide +kernel
theorem dX5_period_6 : decode cX5_period 6 = .ok (.iconst 0, 1) := by decide +kernel
theorem dX5_period_7 : decode cX5_period 7 = .ok (.iconst 1, 1) := by decide +kernel
theorem dX5_period_8 : decode cX5_period 8 = .ok (.invokestatic 44, 3) := by decide +kernel
theorem dX5_period_11 : decode cX5_period 11 = .ok (.ifCond .ne 9, 3) := by decide +kernel
theorem dX5_period_14 : decode cX5_period 14 = .ok (.aload_n 0, 1) := by decide +kernel
theorem dX5_period_15 : decode cX5_period 15 = .ok (.iconst 1, 1) := by decide +kernel
theorem dX5_period_16 : decode cX5_period 16 = .ok (.invokevirtual 74, 3) := by decide +kernel
theorem dX5_period_19 : decode cX5_period 19 = .ok (.ireturn, 1) := by decide +kernel
theorem dX5_period_20 : decode cX5_period 20 = .ok (.aload_n 0, 1) := by decide +kernel
theorem dX5_period_21 : decode cX5_period 21 = .ok (.invokevirtual 140, 3) := by decide +kernel
theorem dX5_period_24 : decode cX5_period 24 = .ok (.iconst (-1), 1) := by decide +kernel
theorem dX5_period_25 : decode cX5_period 25 = .ok (.istore_n 2, 1) := by decide +kernel
theorem dX5_period_26 : decode cX5_period 26 = .ok (.iconst 0, 1) := by decide +kernel
theorem dX5_period_27 : decode cX5_period 27 = .ok (.istore_n 3, 1) := by decide +kernel
theorem dX5_period_28 : decode cX5_period 28 = .ok (.iload_n 3, 1) := by decide +kernel
theorem dX5_period_29 : decode cX5_period 29 = .ok (.bipush 90, 2) := by decide +kernel
theorem dX5_period_31 : decode cX5_period 31 = .ok (.if_icmp .gt 81, 3) := by decide +kernel
theorem dX5_period_34 : decode cX5_period 34 = .ok (.iload_n 2, 1) := by decide +kernel
theorem dX5_period_35 : decode cX5_period 35 = .ok (.iconst (-1), 1) := by decide +kernel
theorem dX5_period_36 : decode cX5_period 36 = .ok (.if_icmp .ne 76, 3) := by decide +kernel
theorem dX5_period_39 : decode cX5_period 39 = .ok (.iconst 0, 1) := by decide +kernel
theorem dX5_period_40 : decode cX5_period 40 = .ok (.istore 4, 2) := by decide +kernel
theorem dX5_period_42 : decode cX5_period 42 = .ok (.iload 4, 2) := by decide +kernel
theorem dX5_period_44 : decode cX5_period 44 = .ok (.iload_n 3, 1) := by decide +kernel
theorem dX5_period_45 : decode cX5_period 45 = .ok (.if_icmp .ge 37, 3) := by decide +kernel
theorem dX5_period_48 : decode cX5_period 48 = .ok (.iload_n 2, 1) := by decide +kernel
theorem dX5_period_49 : decode cX5_period 49 = .ok (.iconst (-1), 1) := by decide +kernel
theorem dX5_period_50 : decode cX5_period 50 = .ok (.if_icmp .ne 32, 3) := by decide +kernel
theorem dX5_period_53 : decode cX5_period 53 = .ok (.aload_n 0, 1) := by decide +kernel
theorem dX5_period_54 : decode cX5_period 54 = .ok (.iload 4, 2) := by decide +kernel
theorem dX5_period_56 : decode cX5_period 56 = .ok (.invokevirtual 143, 3) := by decide +kernel
theorem dX5_period_59 : decode cX5_period 59 = .ok (.ifCond .eq 17, 3) := by decide +kernel
theorem dX5_period_62 : decode cX5_period 62 = .ok (.iload_n 1, 1) := by decide +kernel
theorem dX5_period_63 : decode cX5_period 63 = .ok (.ifCond .ne 8, 3) := by decide +kernel
theorem dX5_period_66 : decode cX5_period 66 = .ok (.iload 4, 2) := by decide +kernel
theorem dX5_period_68 : decode cX5_period 68 = .ok (.goto 7, 3) := by decide +kernel
theorem dX5_period_71 : decode cX5_period 71 = .ok (.iload_n 3, 1) := by decide +kernel
theorem dX5_period_72 : decode cX5_period 72 = .ok (.iload 4, 2) := by decide +kernel
theorem dX5_period_74 : decode cX5_period 74 = .ok (.isub, 1) := by decide +kernel
theorem dX5_period_75 : decode cX5_period 75 = .ok (.istore_n 2, 1) := by decide +kernel
theorem dX5_period_76 : decode cX5_period 76 = .ok (.iinc 4 1, 3) := by decide +kernel
theorem dX5_period_79 : decode cX5_period 79 = .ok (.goto (-37), 3) := by decide +kernel
theorem dX5_period_82 : decode cX5_period 82 = .ok (.aload_n 0, 1) := by decide +kernel
theorem dX5_period_83 : decode cX5_period 83 = .ok (.getfield 16, 3) := by decide +kernel
theorem dX5_period_86 : decode cX5_period 86 = .ok (.iconst 0, 1) := by decide +kernel
theorem dX5_period_87 : decode cX5_period 87 = .ok (.aload_n 0, 1) := by decide +kernel
theorem dX5_period_88 : decode cX5_period 88 = .ok (.getfield 32, 3) := by decide +kernel
theorem dX5_period_91 : decode cX5_period 91 = .ok (.sipush 144, 3) := by decide +kernel
theorem dX5_period_94 : decode cX5_period 94 = .ok (.iload_n 3, 1) := by decide +kernel
theorem dX5_period_95 : decode cX5_period 95 = .ok (.imul, 1) := by decide +kernel
theorem dX5_period_96 : decode cX5_period 96 = .ok (.sipush 144, 3) := by decide +kernel
theorem dX5_period_99 : decode cX5_period 99 = .ok (.invokestatic 68, 3) := by decide +kernel
theorem dX5_period_102 : decode cX5_period 102 = .ok (.aload_n 0, 1) := by decide +kernel
theorem dX5_period_103 : decode cX5_period 103 = .ok (.invokevirtual 101, 3) := by decide +kernel
theorem dX5_period_106 : decode cX5_period 106 = .ok (.iinc 3 1, 3) := by decide +kernel
theorem dX5_period_109 : decode cX5_period 109 = .ok (.goto (-81), 3) := by decide +kernel
theorem dX5_period_112 : decode cX5_period 112 = .ok (.aload_n 0, 1) := by decide +kernel
theorem dX5_period_113 : decode cX5_period 113 = .ok (.invokevirtual 147, 3) := by decide +kernel
theorem dX5_period_116 : decode cX5_period 116 = .ok (.iload_n 2, 1) := by decide +kernel
theorem dX5_period_117 : decode cX5_period 117 = .ok (.ireturn, 1) := by decide +kernel
set_option maxRecDepth 20000 in
theorem ggX5_until_X5_isCell : GoodIn wsX5_until wsX5_isCell := goodIn_r _ [7, 8, 9, 10, 11, 6, 12, 53, 54, 55, 56, 57, 58, 59, 60, 61, 62, 63, 64, 65, 66] (by decide +kernel) (by decide +kernel)
set_option maxRecDepth 20000 in
theorem gX5_until_X5_isCell : GoodIn wsX5_until (wsV RX5 77 RX5 yX5_isCell wsX5_isCell) := goodIn_app (goodIn_of _ (by decide +kernel)) ggX5_until_X5_isCell
set_option maxRecDepth 20000 in
theorem ggX5_until_X5_fail : GoodIn wsX5_until wsX5_fail := goodIn_r _ [16, 1, 53, 54, 55, 56, 57, 58, 59, 60, 61, 62, 63, 64, 65, 66] (by decide +kernel) (by decide +kernel)
set_option maxRecDepth 20000 in
theorem gX5_until_X5_fail : GoodIn wsX5_until (wsV RX5 74 RX5 yX5_fail wsX5_fail) := goodIn_app (goodIn_of _ (by decide +kernel)) ggX5_until_X5_fail
set_option maxRecDepth 20000 in
theorem ggX5_until_X5_keep : GoodIn wsX5_until wsX5_keep := goodIn_r _ [20, 2, 21, 22, 23, 24, 25, 26, 27, 53, 54, 55, 56, 57, 58, 59, 60, 61, 62, 63, 64, 65, 66] (by decide +kernel) (by decide +kernel)
set_option maxRecDepth 20000 in
theorem gX5_until_X5_keep : GoodIn wsX5_until (wsV RX5 140 RX5 yX5_keep wsX5_keep) := goodIn_app (goodIn_of _ (by decide +kernel)) ggX5_until_X5_keep
set_option maxRecDepth 20000 in
theorem ggX5_until_X5_at : GoodIn wsX5_until wsX5_at := goodIn_r _ [30] (by decide +kernel) (by decide +kernel)
set_option maxRecDepth 20000 in
theorem gX5_until_X5_at : GoodIn wsX5_until (va_wsS RX5 48 yX5_at wsX5_at) := goodIn_app (goodIn_of _ (by decide +kernel)) ggX5_until_X5_at
set_option maxRecDepth 20000 in
theorem ggX5_until_X5_step : GoodIn wsX5_until wsX5_step := goodIn_r _ [34, 8, 9, 35, 2, 36, 37, 38, 6, 39, 28, 29, 30, 40, 41, 42, 43, 44, 45, 46, 47, 48, 53, 54, 55, 56, 57, 58, 59, 60, 61, 62, 63, 64, 65, 66] (by decide +kernel) (by decide +kernel)
set_option maxRecDepth 20000 in
theorem gX5_until_X5_step : GoodIn wsX5_until (wsV RX5 101 RX5 yX5_step wsX5_step) := goodIn_app (goodIn_of _ (by decide +kernel)) ggX5_until_X5_step
set_option maxRecDepth 20000 in
theorem ggX5_until_X5_bringBack : GoodIn wsX5_until wsX5_bringBack := goodIn_r _ [52, 21, 2, 22, 23, 24, 25, 27, 26, 53, 54, 55, 56, 57, 58, 59, 60, 61, 62, 63, 64, 65, 66] (by decide +kernel) (by decide +kernel)
set_option maxRecDepth 20000 in
theorem gX5_until_X5_bringBack : GoodIn wsX5_until (wsV RX5 147 RX5 yX5_bringBack wsX5_bringBack) := goodIn_app (goodIn_of _ (by decide +kernel)) ggX5_until_X5_bringBack
theorem dX5_until_0 : decode cX5_until 0 = .ok (.aload_n 0, 1) := by decide +kernel
theorem dX5_until_1 : decode cX5_until 1 = .ok (.iconst 0, 1) := by decide +kernel
theorem dX5_until_2 : decode cX5_until 2 = .ok (.putfield 41, 3) := by decide +kernel
theorem dX5_until_5 : decode cX5_until 5 = .ok (.aload_n 0, 1) := by decide +kernel
theorem dX5_until_6 : decode cX5_until 6 = .ok (.iload_n 1, 1) := by decide +kernel
theorem dX5_until_7 : decode cX5_until 7 = .ok (.iload_n 2, 1) := by decide +kernel
theorem dX5_until_8 : decode cX5_until 8 = .ok (.invokevirtual 77, 3) := by decide +kernel
theorem dX5_until_11 : decode cX5_until 11 = .ok (.ifCond .ne 9, 3) := by decide +kernel
theorem dX5_until_14 : decode cX5_until 14 = .ok (.aload_n 0, 1) := by decide +kernel
theorem dX5_until_15 : decode cX5_until 15 = .ok (.iconst 1, 1) := by decide +kernel
theorem dX5_until_16 : decode cX5_until 16 = .ok (.invokevirtual 74, 3) := by decide +kernel
theorem dX5_until_19 : decode cX5_until 19 = .ok (.ireturn, 1) := by decide +kernel
theorem dX5_until_20 : decode cX5_until 20 = .ok (.aload_n 0, 1) := by decide +kernel
theorem dX5_until_21 : decode cX5_until 21 = .ok (.invokevirtual 140, 3) := by decide +kernel
theorem dX5_until_24 : decode cX5_until 24 = .ok (.iconst 0, 1) := by decide +kernel
theorem dX5_until_25 : decode cX5_until 25 = .ok (.istore_n 3, 1) := by decide +kernel
theorem dX5_until_26 : decode cX5_until 26 = .ok (.iload_n 3, 1) := by decide +kernel
theorem dX5_until_27 : decode cX5_until 27 = .ok (.sipush 150, 3) := by decide +kernel
theorem dX5_until_30 : decode cX5_until 30 = .ok (.if_icmp .gt 27, 3) := by decide +kernel
theorem dX5_until_33 : decode cX5_until 33 = .ok (.aload_n 0, 1) := by decide +kernel
theorem dX5_until_34 : decode cX5_until 34 = .ok (.getfield 16, 3) := by decide +kernel
theorem dX5_until_37 : decode cX5_until 37 = .ok (.iload_n 1, 1) := by decide +kernel
theorem dX5_until_38 : decode cX5_until 38 = .ok (.iload_n 2, 1) := by decide +kernel
theorem dX5_until_39 : decode cX5_until 39 = .ok (.invokestatic 48, 3) := by decide +kernel
theorem dX5_until_42 : decode cX5_until 42 = .ok (.iaload, 1) := by decide +kernel
theorem dX5_until_43 : decode cX5_until 43 = .ok (.iconst 2, 1) := by decide +kernel
theorem dX5_until_44 : decode cX5_until 44 = .ok (.if_icmp .eq 13, 3) := by decide +kernel
theorem dX5_until_47 : decode cX5_until 47 = .ok (.aload_n 0, 1) := by decide +kernel
theorem dX5_until_48 : decode cX5_until 48 = .ok (.invokevirtual 101, 3) := by decide +kernel
theorem dX5_until_51 : decode cX5_until 51 = .ok (.iinc 3 1, 3) := by decide +kernel
theorem dX5_until_54 : decode cX5_until 54 = .ok (.goto (-28), 3) := by decide +kernel
theorem dX5_until_57 : decode cX5_until 57 = .ok (.aload_n 0, 1) := by decide +kernel
theorem dX5_until_58 : decode cX5_until 58 = .ok (.invokevirtual 147, 3) := by decide +kernel
theorem dX5_until_61 : decode cX5_until 61 = .ok (.iload_n 3, 1) := by decide +kernel
theorem dX5_until_62 : decode cX5_until 62 = .ok (.sipush 150, 3) := by decide +kernel
theorem dX5_until_65 : decode cX5_until 65 = .ok (.if_icmp .le 7, 3) := by decide +kernel
theorem dX5_until_68 : decode cX5_until 68 = .ok (.iconst (-1), 1) := by decide +kernel
theorem dX5_until_69 : decode cX5_until 69 = .ok (.goto 4, 3) := by decide +kernel
theorem dX5_until_72 : decode cX5_until 72 = .ok (.iload_n 3, 1) := by decide +kernel
theorem dX5_until_73 : decode cX5_until 73 = .ok (.ireturn, 1) := by decide +kernel
set_option maxRecDepth 20000 in
theorem ggX5_foresee_X5_isIn : GoodIn wsX5_foresee wsX5_isIn := goodIn_r _ [5] (by decide +kernel) (by decide +kernel)
set_option maxRecDepth 20000 in
theorem gX5_foresee_X5_isIn : GoodIn wsX5_foresee (va_wsS RX5 44 yX5_isIn wsX5_isIn) := goodIn_app (goodIn_of _ (by decide +kernel)) ggX5_foresee_X5_isIn
set_option maxRecDepth 20000 in
theorem ggX5_foresee_X5_fail : GoodIn wsX5_foresee wsX5_fail := goodIn_r _ [9, 1, 81, 82, 83, 84, 85, 86, 87, 88, 89, 90, 91, 92, 93, 94] (by decide +kernel) (by decide +kernel)
set_option maxRecDepth 20000 in
theorem gX5_foresee_X5_fail : GoodIn wsX5_foresee (wsV RX5 74 RX5 yX5_fail wsX5_fail) := goodIn_app (goodIn_of _ (by decide +kernel)) ggX5_foresee_X5_fail
set_option maxRecDepth 20000 in
theorem ggX5_foresee_X5_keep : GoodIn wsX5_foresee wsX5_keep := goodIn_r _ [13, 14, 15, 16, 17, 18, 19, 20, 21, 81, 82, 83, 84, 85, 86, 87, 88, 89, 90, 91, 92, 93, 94] (by decide +kernel) (by decide +kernel)
set_option maxRecDepth 20000 in
theorem gX5_foresee_X5_keep : GoodIn wsX5_foresee (wsV RX5 140 RX5 yX5_keep wsX5_keep) := goodIn_app (goodIn_of _ (by decide +kernel)) ggX5_foresee_X5_keep
set_option maxRecDepth 20000 in
theorem ggX5_foresee_X5_step : GoodIn wsX5_foresee wsX5_step := goodIn_r _ [25, 26, 27, 28, 14, 29, 30, 31, 4, 32, 33, 34, 35, 36, 37, 38, 39, 40, 41, 42, 43, 44, 81, 82, 83, 84, 85, 86, 87, 88, 89, 90, 91, 92, 93, 94] (by decide +kernel) (by decide +kernel)
set_option maxRecDepth 20000 in
theorem gX5_foresee_X5_step : GoodIn wsX5_foresee (wsV RX5 101 RX5 yX5_step wsX5_step) := goodIn_app (goodIn_of _ (by decide +kernel)) ggX5_foresee_X5_step
set_option maxRecDepth 20000 in
theorem ggX5_foresee_X5_light : GoodIn wsX5_foresee wsX5_light := goodIn_r _ [48, 49, 14, 20, 81, 82, 83, 84, 85, 86, 87, 88, 89, 90, 91, 92, 93, 94] (by decide +kernel) (by decide +kernel)
set_option maxRecDepth 20000 in
theorem gX5_foresee_X5_light : GoodIn wsX5_foresee (wsV RX5 107 RX5 yX5_light wsX5_light) := goodIn_app (goodIn_of _ (by decide +kernel)) ggX5_foresee_X5_light
set_option maxRecDepth 20000 in
theorem ggX5_foresee_X5_counted : GoodIn wsX5_foresee wsX5_counted := goodIn_r _ [53, 54, 26, 27, 49, 55, 56, 57, 4, 58, 14, 29, 30, 31, 32, 33, 34, 35, 59, 60, 61, 62, 63, 64, 65, 66, 67, 68, 69, 70, 71, 72, 44, 73, 74, 75, 76, 20, 81, 82, 83, 84, 85, 86, 87, 88, 89, 90, 91, 92, 93, 94] (by decide +kernel) (by decide +kernel)
set_option maxRecDepth 20000 in
theorem gX5_foresee_X5_counted : GoodIn wsX5_foresee (wsV RX5 137 RX5 yX5_counted wsX5_counted) := goodIn_app (goodIn_of _ (by decide +kernel)) ggX5_foresee_X5_counted
set_option maxRecDepth 20000 in
theorem ggX5_foresee_X5_bringBack : GoodIn wsX5_foresee wsX5_bringBack := goodIn_r _ [80, 15, 14, 16, 17, 18, 19, 21, 20, 81, 82, 83, 84, 85, 86, 87, 88, 89, 90, 91, 92, 93, 94] (by decide +kernel) (by decide +kernel)
set_option maxRecDepth 20000 in
theorem gX5_foresee_X5_bringBack : GoodIn wsX5_foresee (wsV RX5 147 RX5 yX5_bringBack wsX5_bringBack) := goodIn_app (goodIn_of _ (by decide +kernel)) ggX5_foresee_X5_bringBack
theorem dX5_foresee_0 : decode cX5_foresee 0 = .ok (.aload_n 0, 1) := by decide +kernel
theorem dX5_foresee_1 : decode cX5_foresee 1 = .ok (.iconst 0, 1) := by decide +kernel
theorem dX5_foresee_2 : decode cX5_foresee 2 = .ok (.putfield 41, 3) := by decide +kernel
theorem dX5_foresee_5 : decode cX5_foresee 5 = .ok (.iload_n 1, 1) := by decide +kernel
theorem dX5_foresee_6 : decode cX5_foresee 6 = .ok (.iconst 1, 1) := by decide +kernel
theorem dX5_foresee_7 : decode cX5_foresee 7 = .ok (.bipush 100, 2) := by decide +kernel
theorem dX5_foresee_9 : decode cX5_foresee 9 = .ok (.invokestatic 44, 3) := by decide +kernel
theorem dX5_foresee_12 : decode cX5_foresee 12 = .ok (.ifCond .ne 9, 3) := by decide +kernel
theorem dX5_foresee_15 : decode cX5_foresee 15 = .ok (.aload_n 0, 1) := by decide +kernel
theorem dX5_foresee_16 : decode cX5_foresee 16 = .ok (.iconst 1, 1) := by decide +kernel
theorem dX5_foresee_17 : decode cX5_foresee 17 = .ok (.invokevirtual 74, 3) := by decide +kernel
theorem dX5_foresee_20 : decode cX5_foresee 20 = .ok (.ireturn, 1) := by decide +kernel
theorem dX5_foresee_21 : decode cX5_foresee 21 = .ok (.iload_n 2, 1) := by decide +kernel
theorem dX5_foresee_22 : decode cX5_foresee 22 = .ok (.iconst 3, 1) := by decide +kernel
theorem dX5_foresee_23 : decode cX5_foresee 23 = .ok (.iconst 5, 1) := by decide +kernel
theorem dX5_foresee_24 : decode cX5_foresee 24 = .ok (.invokestatic 44, 3) := by decide +kernel
theorem dX5_foresee_27 : decode cX5_foresee 27 = .ok (.ifCond .ne 15, 3) := by decide +kernel
theorem dX5_foresee_30 : decode cX5_foresee 30 = .ok (.iload_n 2, 1) := by decide +kernel
theorem dX5_foresee_31 : decode cX5_foresee 31 = .ok (.bipush 9, 2) := by decide +kernel
theorem dX5_foresee_33 : decode cX5_foresee 33 = .ok (.if_icmp .eq 9, 3) := by decide +kernel
theorem dX5_foresee_36 : decode cX5_foresee 36 = .ok (.aload_n 0, 1) := by decide +kernel
theorem dX5_foresee_37 : decode cX5_foresee 37 = .ok (.iconst 2, 1) := by decide +kernel
theorem dX5_foresee_38 : decode cX5_foresee 38 = .ok (.invokevirtual 74, 3) := by decide +kernel
theorem dX5_foresee_41 : decode cX5_foresee 41 = .ok (.ireturn, 1) := by decide +kernel
theorem dX5_foresee_42 : decode cX5_foresee 42 = .ok (.aload_n 0, 1) := by decide +kernel
theorem dX5_foresee_43 : decode cX5_foresee 43 = .ok (.invokevirtual 140, 3) := by decide +kernel
theorem dX5_foresee_46 : decode cX5_foresee 46 = .ok (.iconst 0, 1) := by decide +kernel
theorem dX5_foresee_47 : decode cX5_foresee 47 = .ok (.istore_n 3, 1) := by decide +kernel
theorem dX5_foresee_48 : decode cX5_foresee 48 = .ok (.iload_n 3, 1) := by decide +kernel
theorem dX5_foresee_49 : decode cX5_foresee 49 = .ok (.iload_n 1, 1) := by decide +kernel
theorem dX5_foresee_50 : decode cX5_foresee 50 = .ok (.if_icmp .ge 18, 3) := by decide +kernel
theorem dX5_foresee_53 : decode cX5_foresee 53 = .ok (.aload_n 0, 1) := by decide +kernel
theorem dX5_foresee_54 : decode cX5_foresee 54 = .ok (.invokevirtual 101, 3) := by decide +kernel
theorem dX5_foresee_57 : decode cX5_foresee 57 = .ok (.aload_n 0, 1) := by decide +kernel
theorem dX5_foresee_58 : decode cX5_foresee 58 = .ok (.iconst 0, 1) := by decide +kernel
theorem dX5_foresee_59 : decode cX5_foresee 59 = .ok (.invokevirtual 107, 3) := by decide +kernel
theorem dX5_foresee_62 : decode cX5_foresee 62 = .ok (.iinc 3 1, 3) := by decide +kernel
theorem dX5_foresee_65 : decode cX5_foresee 65 = .ok (.goto (-17), 3) := by decide +kernel
theorem dX5_foresee_68 : decode cX5_foresee 68 = .ok (.aload_n 0, 1) := by decide +kernel
theorem dX5_foresee_69 : decode cX5_foresee 69 = .ok (.iload_n 2, 1) := by decide +kernel
theorem dX5_foresee_70 : decode cX5_foresee 70 = .ok (.invokevirtual 137, 3) := by decide +kernel
theorem dX5_foresee_73 : decode cX5_foresee 73 = .ok (.istore_n 3, 1) := by decide +kernel
theorem dX5_foresee_74 : decode cX5_foresee 74 = .ok (.aload_n 0, 1) := by decide +kernel
theorem dX5_foresee_75 : decode cX5_foresee 75 = .ok (.invokevirtual 147, 3) := by decide +kernel
theorem dX5_foresee_78 : decode cX5_foresee 78 = .ok (.iload_n 3, 1) := by decide +kernel
theorem dX5_foresee_79 : decode cX5_foresee 79 = .ok (.ireturn, 1) := by decide +kernel
set_option maxRecDepth 20000 in
theorem ggX5_heads_X5_step : GoodIn wsX5_heads wsX5_step := goodIn_r _ [5, 6, 7, 8, 9, 10, 11, 12, 4, 13, 14, 15, 16, 17, 18, 19, 20, 21, 22, 23, 24, 25, 41, 42, 43, 44, 45, 46, 47, 48, 49, 50, 51, 52, 53, 54] (by decide +kernel) (by decide +kernel)
set_option maxRecDepth 20000 in
theorem gX5_heads_X5_step : GoodIn wsX5_heads (wsV RX5 101 RX5 yX5_step wsX5_step) := goodIn_app (goodIn_of _ (by decide +kernel)) ggX5_heads_X5_step
set_option maxRecDepth 20000 in
theorem ggX5_heads_X5_cells : GoodIn wsX5_heads wsX5_cells := goodIn_r _ [29, 6, 7, 9, 10, 11, 12, 4, 13, 14, 15, 16, 41, 42, 43, 44, 45, 46, 47, 48, 49, 50, 51, 52, 53, 54] (by decide +kernel) (by decide +kernel)
set_option maxRecDepth 20000 in
theorem gX5_heads_X5_cells : GoodIn wsX5_heads (wsV RX5 98 RX5 yX5_cells wsX5_cells) := goodIn_app (goodIn_of _ (by decide +kernel)) ggX5_heads_X5_cells
set_option maxRecDepth 20000 in
theorem ggX5_heads_X5_bringBack : GoodIn wsX5_heads wsX5_bringBack := goodIn_r _ [33, 34, 9, 35, 36, 37, 38, 39, 40, 41, 42, 43, 44, 45, 46, 47, 48, 49, 50, 51, 52, 53, 54] (by decide +kernel) (by decide +kernel)
set_option maxRecDepth 20000 in
theorem gX5_heads_X5_bringBack : GoodIn wsX5_heads (wsV RX5 147 RX5 yX5_bringBack wsX5_bringBack) := goodIn_app (goodIn_of _ (by decide +kernel)) ggX5_heads_X5_bringBack
theorem dX5_heads_0 : decode cX5_heads 0 = .ok (.iconst 0, 1) := by decide +kernel
theorem dX5_heads_1 : decode cX5_heads 1 = .ok (.istore_n 2, 1) := by decide +kernel
theorem dX5_heads_2 : decode cX5_heads 2 = .ok (.iload_n 2, 1) := by decide +kernel
theorem dX5_heads_3 : decode cX5_heads 3 = .ok (.iload_n 1, 1) := by decide +kernel
theorem dX5_heads_4 : decode cX5_heads 4 = .ok (.if_icmp .ge 13, 3) := by decide +kernel
theorem dX5_heads_7 : decode cX5_heads 7 = .ok (.aload_n 0, 1) := by decide +kernel
theorem dX5_heads_8 : decode cX5_heads 8 = .ok (.invokevirtual 101, 3) := by decide +kernel
theorem dX5_heads_11 : decode cX5_heads 11 = .ok (.iinc 2 1, 3) := by decide +kernel
theorem dX5_heads_14 : decode cX5_heads 14 = .ok (.goto (-12), 3) := by decide +kernel
theorem dX5_heads_17 : decode cX5_heads 17 = .ok (.aload_n 0, 1) := by decide +kernel
theorem dX5_heads_18 : decode cX5_heads 18 = .ok (.iconst 2, 1) := by decide +kernel
theorem dX5_heads_19 : decode cX5_heads 19 = .ok (.invokevirtual 98, 3) := by decide +kernel
theorem dX5_heads_22 : decode cX5_heads 22 = .ok (.istore_n 2, 1) := by decide +kernel
theorem dX5_heads_23 : decode cX5_heads 23 = .ok (.aload_n 0, 1) := by decide +kernel
theorem dX5_heads_24 : decode cX5_heads 24 = .ok (.invokevirtual 147, 3) := by decide +kernel
theorem dX5_heads_27 : decode cX5_heads 27 = .ok (.iload_n 2, 1) := by decide +kernel
theorem dX5_heads_28 : decode cX5_heads 28 = .ok (.ireturn, 1) := by decide +kernel
set_option maxRecDepth 20000 in
theorem ggX5_advise_X5_isIn : GoodIn wsX5_advise wsX5_isIn := goodIn_r _ [8] (by decide +kernel) (by decide +kernel)
set_option maxRecDepth 20000 in
theorem gX5_advise_X5_isIn : GoodIn wsX5_advise (va_wsS RX5 44 yX5_isIn wsX5_isIn) := goodIn_app (goodIn_of _ (by decide +kernel)) ggX5_advise_X5_isIn
set_option maxRecDepth 20000 in
theorem ggX5_advise_X5_fail : GoodIn wsX5_advise wsX5_fail := goodIn_r _ [12, 1, 57, 58, 59, 60, 61, 62, 63, 64, 65, 66, 67, 68, 69, 70] (by decide +kernel) (by decide +kernel)
set_option maxRecDepth 20000 in
theorem gX5_advise_X5_fail : GoodIn wsX5_advise (wsV RX5 74 RX5 yX5_fail wsX5_fail) := goodIn_app (goodIn_of _ (by decide +kernel)) ggX5_advise_X5_fail
set_option maxRecDepth 20000 in
theorem ggX5_advise_X5_keep : GoodIn wsX5_advise wsX5_keep := goodIn_r _ [16, 4, 17, 18, 19, 20, 21, 22, 23, 57, 58, 59, 60, 61, 62, 63, 64, 65, 66, 67, 68, 69, 70] (by decide +kernel) (by decide +kernel)
set_option maxRecDepth 20000 in
theorem gX5_advise_X5_keep : GoodIn wsX5_advise (wsV RX5 140 RX5 yX5_keep wsX5_keep) := goodIn_app (goodIn_of _ (by decide +kernel)) ggX5_advise_X5_keep
set_option maxRecDepth 20000 in
theorem ggX5_advise_X5_heads : GoodIn wsX5_advise wsX5_heads := goodIn_r _ [27, 28, 29, 30, 7, 31, 2, 3, 32, 4, 33, 34, 35, 36, 37, 38, 39, 40, 41, 42, 43, 44, 45, 46, 47, 48, 49, 50, 51, 52, 53, 54, 55, 56, 17, 18, 19, 20, 21, 23, 22, 57, 58, 59, 60, 61, 62, 63, 64, 65, 66, 67, 68, 69, 70] (by decide +kernel) (by decide +kernel)
set_option maxRecDepth 20000 in
theorem gX5_advise_X5_heads : GoodIn wsX5_advise (wsV RX5 150 RX5 yX5_heads wsX5_heads) := goodIn_app (goodIn_of _ (by decide +kernel)) ggX5_advise_X5_heads
set_option maxRecDepth 20000 in
theorem ggX5_advise_X5_cell : GoodIn wsX5_advise wsX5_cell := goodIn_r _ [36, 2, 37, 38, 7, 39, 57, 58, 59, 60, 61, 62, 63, 64, 65, 66, 67, 68, 69, 70] (by decide +kernel) (by decide +kernel)
set_option maxRecDepth 20000 in
theorem gX5_advise_X5_cell : GoodIn wsX5_advise (wsV RX5 58 RX5 yX5_cell wsX5_cell) := goodIn_app (goodIn_of _ (by decide +kernel)) ggX5_advise_X5_cell
theorem dX5_advise_0 : decode cX5_advise 0 = .ok (.aload_n 0, 1) := by decide +kernel
theorem dX5_advise_1 : decode cX5_advise 1 = .ok (.iconst 0, 1) := by decide +kernel
theorem dX5_advise_2 : decode cX5_advise 2 = .ok (.putfield 41, 3) := by decide +kernel
theorem dX5_advise_5 : decode cX5_advise 5 = .ok (.iload_n 1, 1) := by decide +kernel
theorem dX5_advise_6 : decode cX5_advise 6 = .ok (.iconst 1, 1) := by decide +kernel
theorem dX5_advise_7 : decode cX5_advise 7 = .ok (.iconst 4, 1) := by decide +kernel
theorem dX5_advise_8 : decode cX5_advise 8 = .ok (.invokestatic 44, 3) := by decide +kernel
theorem dX5_advise_11 : decode cX5_advise 11 = .ok (.ifCond .ne 9, 3) := by decide +kernel
theorem dX5_advise_14 : decode cX5_advise 14 = .ok (.aload_n 0, 1) := by decide +kernel
theorem dX5_advise_15 : decode cX5_advise 15 = .ok (.iconst 1, 1) := by decide +kernel
theorem dX5_advise_16 : decode cX5_advise 16 = .ok (.invokevirtual 74, 3) := by decide +kernel
theorem dX5_advise_19 : decode cX5_advise 19 = .ok (.ireturn, 1) := by decide +kernel
theorem dX5_advise_20 : decode cX5_advise 20 = .ok (.aload_n 0, 1) := by decide +kernel
theorem dX5_advise_21 : decode cX5_advise 21 = .ok (.invokevirtual 140, 3) := by decide +kernel
theorem dX5_advise_24 : decode cX5_advise 24 = .ok (.aload_n 0, 1) := by decide +kernel
theorem dX5_advise_25 : decode cX5_advise 25 = .ok (.iload_n 1, 1) := by decide +kernel
theorem dX5_advise_26 : decode cX5_advise 26 = .ok (.invokevirtual 150, 3) := by decide +kernel
theorem dX5_advise_29 : decode cX5_advise 29 = .ok (.istore_n 2, 1) := by decide +kernel
theorem dX5_advise_30 : decode cX5_advise 30 = .ok (.iconst (-1), 1) := by decide +kernel
theorem dX5_advise_31 : decode cX5_advise 31 = .ok (.istore_n 3, 1) := by decide +kernel
theorem dX5_advise_32 : decode cX5_advise 32 = .ok (.iconst 0, 1) := by decide +kernel
theorem dX5_advise_33 : decode cX5_advise 33 = .ok (.istore 4, 2) := by decide +kernel
theorem dX5_advise_35 : decode cX5_advise 35 = .ok (.iload 4, 2) := by decide +kernel
theorem dX5_advise_37 : decode cX5_advise 37 = .ok (.aload_n 0, 1) := by decide +kernel
theorem dX5_advise_38 : decode cX5_advise 38 = .ok (.getfield 7, 3) := by decide +kernel
theorem dX5_advise_41 : decode cX5_advise 41 = .ok (.aload_n 0, 1) := by decide +kernel
theorem dX5_advise_42 : decode cX5_advise 42 = .ok (.getfield 13, 3) := by decide +kernel
theorem dX5_advise_45 : decode cX5_advise 45 = .ok (.imul, 1) := by decide +kernel
theorem dX5_advise_46 : decode cX5_advise 46 = .ok (.if_icmp .ge 61, 3) := by decide +kernel
theorem dX5_advise_49 : decode cX5_advise 49 = .ok (.aload_n 0, 1) := by decide +kernel
theorem dX5_advise_50 : decode cX5_advise 50 = .ok (.getfield 16, 3) := by decide +kernel
theorem dX5_advise_53 : decode cX5_advise 53 = .ok (.aload_n 0, 1) := by decide +kernel
theorem dX5_advise_54 : decode cX5_advise 54 = .ok (.iload 4, 2) := by decide +kernel
theorem dX5_advise_56 : decode cX5_advise 56 = .ok (.invokevirtual 58, 3) := by decide +kernel
theorem dX5_advise_59 : decode cX5_advise 59 = .ok (.iaload, 1) := by decide +kernel
theorem dX5_advise_60 : decode cX5_advise 60 = .ok (.iconst 1, 1) := by decide +kernel
theorem dX5_advise_61 : decode cX5_advise 61 = .ok (.if_icmp .eq 6, 3) := by decide +kernel
theorem dX5_advise_64 : decode cX5_advise 64 = .ok (.goto 37, 3) := by decide +kernel
theorem dX5_advise_67 : decode cX5_advise 67 = .ok (.aload_n 0, 1) := by decide +kernel
theorem dX5_advise_68 : decode cX5_advise 68 = .ok (.getfield 16, 3) := by decide +kernel
theorem dX5_advise_71 : decode cX5_advise 71 = .ok (.aload_n 0, 1) := by decide +kernel
theorem dX5_advise_72 : decode cX5_advise 72 = .ok (.iload 4, 2) := by decide +kernel
theorem dX5_advise_74 : decode cX5_advise 74 = .ok (.invokevirtual 58, 3) := by decide +kernel
theorem dX5_advise_77 : decode cX5_advise 77 = .ok (.iconst 0, 1) := by decide +kernel
theorem dX5_advise_78 : decode cX5_advise 78 = .ok (.iastore, 1) := by decide +kernel
theorem dX5_advise_79 : decode cX5_advise 79 = .ok (.aload_n 0, 1) := by decide +kernel
theorem dX5_advise_80 : decode cX5_advise 80 = .ok (.iload_n 1, 1) := by decide +kernel
theorem dX5_advise_81 : decode cX5_advise 81 = .ok (.invokevirtual 150, 3) := by decide +kernel
theorem dX5_advise_84 : decode cX5_advise 84 = .ok (.istore 5, 2) := by decide +kernel
theorem dX5_advise_86 : decode cX5_advise 86 = .ok (.iload 5, 2) := by decide +kernel
theorem dX5_advise_88 : decode cX5_advise 88 = .ok (.iload_n 2, 1) := by decide +kernel
theorem dX5_advise_89 : decode cX5_advise 89 = .ok (.if_icmp .lt 6, 3) := by decide +kernel
theorem dX5_advise_92 : decode cX5_advise 92 = .ok (.goto 9, 3) := by decide +kernel
theorem dX5_advise_95 : decode cX5_advise 95 = .ok (.iload 4, 2) := by decide +kernel
theorem dX5_advise_97 : decode cX5_advise 97 = .ok (.istore_n 3, 1) := by decide +kernel
theorem dX5_advise_98 : decode cX5_advise 98 = .ok (.iload 5, 2) := by decide +kernel
theorem dX5_advise_100 : decode cX5_advise 100 = .ok (.istore_n 2, 1) := by decide +kernel
theorem dX5_advise_101 : decode cX5_advise 101 = .ok (.iinc 4 1, 3) := by decide +kernel
theorem dX5_advise_104 : decode cX5_advise 104 = .ok (.goto (-69), 3) := by decide +kernel
theorem dX5_advise_107 : decode cX5_advise 107 = .ok (.iload_n 3, 1) := by decide +kernel
theorem dX5_advise_108 : decode cX5_advise 108 = .ok (.ireturn, 1) := by decide +kernel
theorem dX5_mean_0 : decode cX5_mean 0 = .ok (.aload_n 0, 1) := by decide +kernel
theorem dX5_mean_1 : decode cX5_mean 1 = .ok (.iconst 0, 1) := by decide +kernel
theorem dX5_mean_2 : decode cX5_mean 2 = .ok (.putfield 41, 3) := by decide +kernel
theorem dX5_mean_5 : decode cX5_mean 5 = .ok (.aload_n 0, 1) := by decide +kernel
theorem dX5_mean_6 : decode cX5_mean 6 = .ok (.getfield 104, 3) := by decide +kernel
theorem dX5_mean_9 : decode cX5_mean 9 = .ok (.ifCond .ne 7, 3) := by decide +kernel
theorem dX5_mean_12 : decode cX5_mean 12 = .ok (.dconst 0, 1) := by decide +kernel
theorem dX5_mean_13 : decode cX5_mean 13 = .ok (.goto 14, 3) := by decide +kernel
theorem dX5_mean_16 : decode cX5_mean 16 = .ok (.aload_n 0, 1) := by decide +kernel
theorem dX5_mean_17 : decode cX5_mean 17 = .ok (.getfield 111, 3) := by decide +kernel
theorem dX5_mean_20 : decode cX5_mean 20 = .ok (.i2d, 1) := by decide +kernel
theorem dX5_mean_21 : decode cX5_mean 21 = .ok (.aload_n 0, 1) := by decide +kernel
theorem dX5_mean_22 : decode cX5_mean 22 = .ok (.getfield 104, 3) := by decide +kernel
theorem dX5_mean_25 : decode cX5_mean 25 = .ok (.i2d, 1) := by decide +kernel
theorem dX5_mean_26 : decode cX5_mean 26 = .ok (.ddiv, 1) := by decide +kernel
theorem dX5_mean_27 : decode cX5_mean 27 = .ok (.dreturn, 1) := by decide +kernel
set_option maxRecDepth 20000 in
theorem ggX5_digest_X5_counted : GoodIn wsX5_digest wsX5_counted := goodIn_r _ [12, 13, 4, 5, 6, 14, 15, 16, 11, 17, 18, 19, 20, 21, 22, 23, 24, 25, 26, 27, 28, 29, 30, 31, 32, 33, 34, 35, 36, 37, 38, 39, 40, 41, 42, 43, 44, 45, 66, 67, 68, 69, 70, 71, 72, 73, 74, 75, 76, 77, 78, 79] (by decide +kernel) (by decide +kernel)
set_option maxRecDepth 20000 in
theorem gX5_digest_X5_counted : GoodIn wsX5_digest (wsV RX5 137 RX5 yX5_counted wsX5_counted) := goodIn_app (goodIn_of _ (by decide +kernel)) ggX5_digest_X5_counted
set_option maxRecDepth 20000 in
theorem ggX5_digest_X5_cell : GoodIn wsX5_digest wsX5_cell := goodIn_r _ [22, 4, 23, 24, 11, 25, 66, 67, 68, 69, 70, 71, 72, 73, 74, 75, 76, 77, 78, 79] (by decide +kernel) (by decide +kernel)
set_option maxRecDepth 20000 in
theorem gX5_digest_X5_cell : GoodIn wsX5_digest (wsV RX5 58 RX5 yX5_cell wsX5_cell) := goodIn_app (goodIn_of _ (by decide +kernel)) ggX5_digest_X5_cell
set_option maxRecDepth 20000 in
theorem ggX5_digest_X5_cellTold : GoodIn wsX5_digest wsX5_cellTold := goodIn_r _ [49, 18, 50, 51, 52, 11, 53, 40, 54, 55, 56, 57, 58, 59, 60, 61, 35, 36, 37, 38, 34, 39, 66, 67, 68, 69, 70, 71, 72, 73, 74, 75, 76, 77, 78, 79] (by decide +kernel) (by decide +kernel)
set_option maxRecDepth 20000 in
theorem gX5_digest_X5_cellTold : GoodIn wsX5_digest (wsV RX5 120 RX5 yX5_cellTold wsX5_cellTold) := goodIn_app (goodIn_of _ (by decide +kernel)) ggX5_digest_X5_cellTold
set_option maxRecDepth 20000 in
theorem ggX5_digest_X5_lampTold : GoodIn wsX5_digest wsX5_lampTold := goodIn_r _ [65, 45, 66, 67, 68, 69, 70, 71, 72, 73, 74, 75, 76, 77, 78, 79] (by decide +kernel) (by decide +kernel)
set_option maxRecDepth 20000 in
theorem gX5_digest_X5_lampTold : GoodIn wsX5_digest (wsV RX5 123 RX5 yX5_lampTold wsX5_lampTold) := goodIn_app (goodIn_of _ (by decide +kernel)) ggX5_digest_X5_lampTold
theorem dX5_digest_0 : decode cX5_digest 0 = .ok (.aload_n 0, 1) := by decide +kernel
theorem dX5_digest_1 : decode cX5_digest 1 = .ok (.iconst 0, 1) := by decide +kernel
theorem dX5_digest_2 : decode cX5_digest 2 = .ok (.putfield 41, 3) := by decide +kernel
theorem dX5_digest_5 : decode cX5_digest 5 = .ok (.ldc2_w 153, 3) := by decide +kernel
theorem dX5_digest_8 : decode cX5_digest 8 = .ok (.lstore_n 1, 1) := by decide +kernel
theorem dX5_digest_9 : decode cX5_digest 9 = .ok (.iconst 0, 1) := by decide +kernel
theorem dX5_digest_10 : decode cX5_digest 10 = .ok (.istore_n 3, 1) := by decide +kernel
theorem dX5_digest_11 : decode cX5_digest 11 = .ok (.iload_n 3, 1) := by decide +kernel
theorem dX5_digest_12 : decode cX5_digest 12 = .ok (.bipush 10, 2) := by decide +kernel
theorem dX5_digest_14 : decode cX5_digest 14 = .ok (.if_icmp .ge 22, 3) := by decide +kernel
theorem dX5_digest_17 : decode cX5_digest 17 = .ok (.lload_n 1, 1) := by decide +kernel
theorem dX5_digest_18 : decode cX5_digest 18 = .ok (.ldc2_w 155, 3) := by decide +kernel
theorem dX5_digest_21 : decode cX5_digest 21 = .ok (.lmul, 1) := by decide +kernel
theorem dX5_digest_22 : decode cX5_digest 22 = .ok (.aload_n 0, 1) := by decide +kernel
theorem dX5_digest_23 : decode cX5_digest 23 = .ok (.iload_n 3, 1) := by decide +kernel
theorem dX5_digest_24 : decode cX5_digest 24 = .ok (.invokevirtual 137, 3) := by decide +kernel
theorem dX5_digest_27 : decode cX5_digest 27 = .ok (.i2l, 1) := by decide +kernel
theorem dX5_digest_28 : decode cX5_digest 28 = .ok (.ladd, 1) := by decide +kernel
theorem dX5_digest_29 : decode cX5_digest 29 = .ok (.lstore_n 1, 1) := by decide +kernel
theorem dX5_digest_30 : decode cX5_digest 30 = .ok (.iinc 3 1, 3) := by decide +kernel
theorem dX5_digest_33 : decode cX5_digest 33 = .ok (.goto (-22), 3) := by decide +kernel
theorem dX5_digest_36 : decode cX5_digest 36 = .ok (.iconst 0, 1) := by decide +kernel
theorem dX5_digest_37 : decode cX5_digest 37 = .ok (.istore_n 3, 1) := by decide +kernel
theorem dX5_digest_38 : decode cX5_digest 38 = .ok (.iload_n 3, 1) := by decide +kernel
theorem dX5_digest_39 : decode cX5_digest 39 = .ok (.aload_n 0, 1) := by decide +kernel
theorem dX5_digest_40 : decode cX5_digest 40 = .ok (.getfield 7, 3) := by decide +kernel
theorem dX5_digest_43 : decode cX5_digest 43 = .ok (.aload_n 0, 1) := by decide +kernel
theorem dX5_digest_44 : decode cX5_digest 44 = .ok (.getfield 13, 3) := by decide +kernel
theorem dX5_digest_47 : decode cX5_digest 47 = .ok (.imul, 1) := by decide +kernel
theorem dX5_digest_48 : decode cX5_digest 48 = .ok (.if_icmp .ge 43, 3) := by decide +kernel
theorem dX5_digest_51 : decode cX5_digest 51 = .ok (.iconst 0, 1) := by decide +kernel
theorem dX5_digest_52 : decode cX5_digest 52 = .ok (.istore 4, 2) := by decide +kernel
theorem dX5_digest_54 : decode cX5_digest 54 = .ok (.iload 4, 2) := by decide +kernel
theorem dX5_digest_56 : decode cX5_digest 56 = .ok (.iconst 5, 1) := by decide +kernel
theorem dX5_digest_57 : decode cX5_digest 57 = .ok (.if_icmp .ge 28, 3) := by decide +kernel
theorem dX5_digest_60 : decode cX5_digest 60 = .ok (.lload_n 1, 1) := by decide +kernel
theorem dX5_digest_61 : decode cX5_digest 61 = .ok (.ldc2_w 155, 3) := by decide +kernel
theorem dX5_digest_64 : decode cX5_digest 64 = .ok (.lmul, 1) := by decide +kernel
theorem dX5_digest_65 : decode cX5_digest 65 = .ok (.aload_n 0, 1) := by decide +kernel
theorem dX5_digest_66 : decode cX5_digest 66 = .ok (.aload_n 0, 1) := by decide +kernel
theorem dX5_digest_67 : decode cX5_digest 67 = .ok (.iload_n 3, 1) := by decide +kernel
theorem dX5_digest_68 : decode cX5_digest 68 = .ok (.invokevirtual 58, 3) := by decide +kernel
theorem dX5_digest_71 : decode cX5_digest 71 = .ok (.iload 4, 2) := by decide +kernel
theorem dX5_digest_73 : decode cX5_digest 73 = .ok (.invokevirtual 120, 3) := by decide +kernel
theorem dX5_digest_76 : decode cX5_digest 76 = .ok (.i2l, 1) := by decide +kernel
theorem dX5_digest_77 : decode cX5_digest 77 = .ok (.ladd, 1) := by decide +kernel
theorem dX5_digest_78 : decode cX5_digest 78 = .ok (.lstore_n 1, 1) := by decide +kernel
theorem dX5_digest_79 : decode cX5_digest 79 = .ok (.iinc 4 1, 3) := by decide +kernel
theorem dX5_digest_82 : decode cX5_digest 82 = .ok (.goto (-28), 3) := by decide +kernel
theorem dX5_digest_85 : decode cX5_digest 85 = .ok (.iinc 3 1, 3) := by decide +kernel
theorem dX5_digest_88 : decode cX5_digest 88 = .ok (.goto (-50), 3) := by decide +kernel
theorem dX5_digest_91 : decode cX5_digest 91 = .ok (.iconst 0, 1) := by decide +kernel
theorem dX5_digest_92 : decode cX5_digest 92 = .ok (.istore_n 3, 1) := by decide +kernel
theorem dX5_digest_93 : decode cX5_digest 93 = .ok (.iload_n 3, 1) := by decide +kernel
theorem dX5_digest_94 : decode cX5_digest 94 = .ok (.aload_n 0, 1) := by decide +kernel
theorem dX5_digest_95 : decode cX5_digest 95 = .ok (.getfield 65, 3) := by decide +kernel
theorem dX5_digest_98 : decode cX5_digest 98 = .ok (.if_icmp .ge 39, 3) := by decide +kernel
theorem dX5_digest_101 : decode cX5_digest 101 = .ok (.iconst 0, 1) := by decide +kernel
theorem dX5_digest_102 : decode cX5_digest 102 = .ok (.istore 4, 2) := by decide +kernel
theorem dX5_digest_104 : decode cX5_digest 104 = .ok (.iload 4, 2) := by decide +kernel
theorem dX5_digest_106 : decode cX5_digest 106 = .ok (.iconst 4, 1) := by decide +kernel
theorem dX5_digest_107 : decode cX5_digest 107 = .ok (.if_icmp .ge 24, 3) := by decide +kernel
theorem dX5_digest_110 : decode cX5_digest 110 = .ok (.lload_n 1, 1) := by decide +kernel
theorem dX5_digest_111 : decode cX5_digest 111 = .ok (.ldc2_w 155, 3) := by decide +kernel
theorem dX5_digest_114 : decode cX5_digest 114 = .ok (.lmul, 1) := by decide +kernel
theorem dX5_digest_115 : decode cX5_digest 115 = .ok (.aload_n 0, 1) := by decide +kernel
theorem dX5_digest_116 : decode cX5_digest 116 = .ok (.iload_n 3, 1) := by decide +kernel
theorem dX5_digest_117 : decode cX5_digest 117 = .ok (.iload 4, 2) := by decide +kernel
theorem dX5_digest_119 : decode cX5_digest 119 = .ok (.invokevirtual 123, 3) := by decide +kernel
theorem dX5_digest_122 : decode cX5_digest 122 = .ok (.i2l, 1) := by decide +kernel
theorem dX5_digest_123 : decode cX5_digest 123 = .ok (.ladd, 1) := by decide +kernel
theorem dX5_digest_124 : decode cX5_digest 124 = .ok (.lstore_n 1, 1) := by decide +kernel
theorem dX5_digest_125 : decode cX5_digest 125 = .ok (.iinc 4 1, 3) := by decide +kernel
theorem dX5_digest_128 : decode cX5_digest 128 = .ok (.goto (-24), 3) := by decide +kernel
theorem dX5_digest_131 : decode cX5_digest 131 = .ok (.iinc 3 1, 3) := by decide +kernel
theorem dX5_digest_134 : decode cX5_digest 134 = .ok (.goto (-41), 3) := by decide +kernel
theorem dX5_digest_137 : decode cX5_digest 137 = .ok (.lload_n 1, 1) := by decide +kernel
theorem dX5_digest_138 : decode cX5_digest 138 = .ok (.ldc2_w 155, 3) := by decide +kernel
theorem dX5_digest_141 : decode cX5_digest 141 = .ok (.lmul, 1) := by decide +kernel
theorem dX5_digest_142 : decode cX5_digest 142 = .ok (.aload_n 0, 1) := by decide +kernel
theorem dX5_digest_143 : decode cX5_digest 143 = .ok (.getfield 111, 3) := by decide +kernel
theorem dX5_digest_146 : decode cX5_digest 146 = .ok (.i2l, 1) := by decide +kernel
theorem dX5_digest_147 : decode cX5_digest 147 = .ok (.ladd, 1) := by decide +kernel
theorem dX5_digest_148 : decode cX5_digest 148 = .ok (.lreturn, 1) := by decide +kernel
theorem dJ6_compare_7cf53_0 : decode cJ6_compare_7cf53 0 = .ok (.iload_n 0, 1) := by decide +kernel
theorem dJ6_compare_7cf53_1 : decode cJ6_compare_7cf53 1 = .ok (.iload_n 1, 1) := by decide +kernel
theorem dJ6_compare_7cf53_2 : decode cJ6_compare_7cf53 2 = .ok (.if_icmp .ge 7, 3) := by decide +kernel
theorem dJ6_compare_7cf53_5 : decode cJ6_compare_7cf53 5 = .ok (.iconst (-1), 1) := by decide +kernel
theorem dJ6_compare_7cf53_6 : decode cJ6_compare_7cf53 6 = .ok (.goto 13, 3) := by decide +kernel
theorem dJ6_compare_7cf53_9 : decode cJ6_compare_7cf53 9 = .ok (.iload_n 0, 1) := by decide +kernel
theorem dJ6_compare_7cf53_10 : decode cJ6_compare_7cf53 10 = .ok (.iload_n 1, 1) := by decide +kernel
theorem dJ6_compare_7cf53_11 : decode cJ6_compare_7cf53 11 = .ok (.if_icmp .ne 7, 3) := by decide +kernel
theorem dJ6_compare_7cf53_14 : decode cJ6_compare_7cf53 14 = .ok (.iconst 0, 1) := by decide +kernel
theorem dJ6_compare_7cf53_15 : decode cJ6_compare_7cf53 15 = .ok (.goto 4, 3) := by decide +kernel
theorem dJ6_compare_7cf53_18 : decode cJ6_compare_7cf53 18 = .ok (.iconst 1, 1) := by decide +kernel
theorem dJ6_compare_7cf53_19 : decode cJ6_compare_7cf53 19 = .ok (.ireturn, 1) := by decide +kernel
theorem dJ6_signum_0f7a4_0 : decode cJ6_signum_0f7a4 0 = .ok (.iload_n 0, 1) := by decide +kernel
theorem dJ6_signum_0f7a4_1 : decode cJ6_signum_0f7a4 1 = .ok (.bipush 31, 2) := by decide +kernel
theorem dJ6_signum_0f7a4_3 : decode cJ6_signum_0f7a4 3 = .ok (.ishr, 1) := by decide +kernel
theorem dJ6_signum_0f7a4_4 : decode cJ6_signum_0f7a4 4 = .ok (.iload_n 0, 1) := by decide +kernel
theorem dJ6_signum_0f7a4_5 : decode cJ6_signum_0f7a4 5 = .ok (.ineg, 1) := by decide +kernel
theorem dJ6_signum_0f7a4_6 : decode cJ6_signum_0f7a4 6 = .ok (.bipush 31, 2) := by decide +kernel
theorem dJ6_signum_0f7a4_8 : decode cJ6_signum_0f7a4 8 = .ok (.iushr, 1) := by decide +kernel
theorem dJ6_signum_0f7a4_9 : decode cJ6_signum_0f7a4 9 = .ok (.ior, 1) := by decide +kernel
theorem dJ6_signum_0f7a4_10 : decode cJ6_signum_0f7a4 10 = .ok (.ireturn, 1) := by decide +kernel
theorem dJ9_abs_0f7a4_0 : decode cJ9_abs_0f7a4 0 = .ok (.iload_n 0, 1) := by decide +kernel
theorem dJ9_abs_0f7a4_1 : decode cJ9_abs_0f7a4 1 = .ok (.ifCond .ge 8, 3) := by decide +kernel
theorem dJ9_abs_0f7a4_4 : decode cJ9_abs_0f7a4 4 = .ok (.iload_n 0, 1) := by decide +kernel
theorem dJ9_abs_0f7a4_5 : decode cJ9_abs_0f7a4 5 = .ok (.ineg, 1) := by decide +kernel
theorem dJ9_abs_0f7a4_6 : decode cJ9_abs_0f7a4 6 = .ok (.goto 4, 3) := by decide +kernel
theorem dJ9_abs_0f7a4_9 : decode cJ9_abs_0f7a4 9 = .ok (.iload_n 0, 1) := by decide +kernel
theorem dJ9_abs_0f7a4_10 : decode cJ9_abs_0f7a4 10 = .ok (.ireturn, 1) := by decide +kernel
theorem dJ9_max_7cf53_0 : decode cJ9_max_7cf53 0 = .ok (.iload_n 0, 1) := by decide +kernel
theorem dJ9_max_7cf53_1 : decode cJ9_max_7cf53 1 = .ok (.iload_n 1, 1) := by decide +kernel
theorem dJ9_max_7cf53_2 : decode cJ9_max_7cf53 2 = .ok (.if_icmp .lt 7, 3) := by decide +kernel
theorem dJ9_max_7cf53_5 : decode cJ9_max_7cf53 5 = .ok (.iload_n 0, 1) := by decide +kernel
theorem dJ9_max_7cf53_6 : decode cJ9_max_7cf53 6 = .ok (.goto 4, 3) := by decide +kernel
theorem dJ9_max_7cf53_9 : decode cJ9_max_7cf53 9 = .ok (.iload_n 1, 1) := by decide +kernel
theorem dJ9_max_7cf53_10 : decode cJ9_max_7cf53 10 = .ok (.ireturn, 1) := by decide +kernel
theorem dJ7_fill_53178_0 : decode cJ7_fill_53178 0 = .ok (.iconst 0, 1) := by decide +kernel
theorem dJ7_fill_53178_1 : decode cJ7_fill_53178 1 = .ok (.istore_n 2, 1) := by decide +kernel
theorem dJ7_fill_53178_2 : decode cJ7_fill_53178 2 = .ok (.aload_n 0, 1) := by decide +kernel
theorem dJ7_fill_53178_3 : decode cJ7_fill_53178 3 = .ok (.arraylength, 1) := by decide +kernel
theorem dJ7_fill_53178_4 : decode cJ7_fill_53178 4 = .ok (.istore_n 3, 1) := by decide +kernel
theorem dJ7_fill_53178_5 : decode cJ7_fill_53178 5 = .ok (.iload_n 2, 1) := by decide +kernel
theorem dJ7_fill_53178_6 : decode cJ7_fill_53178 6 = .ok (.iload_n 3, 1) := by decide +kernel
theorem dJ7_fill_53178_7 : decode cJ7_fill_53178 7 = .ok (.if_icmp .ge 13, 3) := by decide +kernel
theorem dJ7_fill_53178_10 : decode cJ7_fill_53178 10 = .ok (.aload_n 0, 1) := by decide +kernel
theorem dJ7_fill_53178_11 : decode cJ7_fill_53178 11 = .ok (.iload_n 2, 1) := by decide +kernel
theorem dJ7_fill_53178_12 : decode cJ7_fill_53178 12 = .ok (.iload_n 1, 1) := by decide +kernel
theorem dJ7_fill_53178_13 : decode cJ7_fill_53178 13 = .ok (.iastore, 1) := by decide +kernel
theorem dJ7_fill_53178_14 : decode cJ7_fill_53178 14 = .ok (.iinc 2 1, 3) := by decide +kernel
theorem dJ7_fill_53178_17 : decode cJ7_fill_53178 17 = .ok (.goto (-12), 3) := by decide +kernel
theorem dJ7_fill_53178_20 : decode cJ7_fill_53178 20 = .ok (.return_, 1) := by decide +kernel
set_option maxRecDepth 20000 in
theorem ggL_setBoard_X4_setBoard : GoodIn wsL_setBoard wsX4_setBoard := goodIn_ca (goodIn_r _ [6, 7, 8, 9, 10, 11, 12, 5, 13, 14, 15, 16, 17, 18, 19, 20, 21, 22, 23, 24, 25, 26, 27, 28, 29, 30, 31, 32, 33, 34, 35, 36, 37, 38, 39, 40, 41, 42, 43, 44, 45, 46, 47, 48, 49, 50, 51] (by decide +kernel) (by decide +kernel)) (goodIn_sub (fun _ h => List.mem_cons_of_mem _ (List.mem_append_right _ h)) (by decide +kernel))
set_option maxRecDepth 20000 in
theorem gL_setBoard_X4_setBoard : GoodIn wsL_setBoard (wsV RL 7 RX4 yX4_setBoard wsX4_setBoard) := goodIn_app (goodIn_of _ (by decide +kernel)) ggL_setBoard_X4_setBoard
theorem dL_setBoard_0 : decode cL_setBoard 0 = .ok (.aload_n 3, 1) := by decide +kernel
theorem dL_setBoard_1 : decode cL_setBoard 1 = .ok (.iconst 0, 1) := by decide +kernel
theorem dL_setBoard_2 : decode cL_setBoard 2 = .ok (.aload_n 0, 1) := by decide +kernel
theorem dL_setBoard_3 : decode cL_setBoard 3 = .ok (.iload_n 1, 1) := by decide +kernel
theorem dL_setBoard_4 : decode cL_setBoard 4 = .ok (.iload_n 2, 1) := by decide +kernel
theorem dL_setBoard_5 : decode cL_setBoard 5 = .ok (.invokevirtual 7, 3) := by decide +kernel
theorem dL_setBoard_8 : decode cL_setBoard 8 = .ok (.i2l, 1) := by decide +kernel
theorem dL_setBoard_9 : decode cL_setBoard 9 = .ok (.lastore, 1) := by decide +kernel
theorem dL_setBoard_10 : decode cL_setBoard 10 = .ok (.goto 7, 3) := by decide +kernel
theorem dL_setBoard_13 : decode cL_setBoard 13 = .ok (.astore 4, 2) := by decide +kernel
theorem dL_setBoard_15 : decode cL_setBoard 15 = .ok (.iconst 1, 1) := by decide +kernel
theorem dL_setBoard_16 : decode cL_setBoard 16 = .ok (.ireturn, 1) := by decide +kernel
theorem dL_setBoard_17 : decode cL_setBoard 17 = .ok (.iconst 0, 1) := by decide +kernel
theorem dL_setBoard_18 : decode cL_setBoard 18 = .ok (.ireturn, 1) := by decide +kernel
set_option maxRecDepth 20000 in
theorem ggL_set_X4_set : GoodIn wsL_set wsX4_set := goodIn_ca (goodIn_ca (goodIn_r _ [7, 8, 9, 10, 11, 12, 13, 14, 15, 16, 17, 18, 19, 20, 21, 22, 23, 24, 25, 26, 27, 28, 29, 30, 31, 32, 33, 34, 35, 36, 37, 38, 39] (by decide +kernel) (by decide +kernel)) (goodIn_sub (fun _ h => List.mem_cons_of_mem _ (List.mem_append_left _ (List.mem_append_right _ h))) (by decide +kernel))) (goodIn_sub (fun _ h => List.mem_cons_of_mem _ (List.mem_append_right _ h)) (by decide +kernel))
set_option maxRecDepth 20000 in
theorem gL_set_X4_set : GoodIn wsL_set (wsV RL 15 RX4 yX4_set wsX4_set) := goodIn_app (goodIn_of _ (by decide +kernel)) ggL_set_X4_set
theorem dL_set_0 : decode cL_set 0 = .ok (.aload 4, 2) := by decide +kernel
theorem dL_set_2 : decode cL_set 2 = .ok (.iconst 0, 1) := by decide +kernel
theorem dL_set_3 : decode cL_set 3 = .ok (.aload_n 0, 1) := by decide +kernel
theorem dL_set_4 : decode cL_set 4 = .ok (.iload_n 1, 1) := by decide +kernel
theorem dL_set_5 : decode cL_set 5 = .ok (.iload_n 2, 1) := by decide +kernel
theorem dL_set_6 : decode cL_set 6 = .ok (.iload_n 3, 1) := by decide +kernel
theorem dL_set_7 : decode cL_set 7 = .ok (.invokevirtual 15, 3) := by decide +kernel
theorem dL_set_10 : decode cL_set 10 = .ok (.i2l, 1) := by decide +kernel
theorem dL_set_11 : decode cL_set 11 = .ok (.lastore, 1) := by decide +kernel
theorem dL_set_12 : decode cL_set 12 = .ok (.goto 11, 3) := by decide +kernel
theorem dL_set_15 : decode cL_set 15 = .ok (.astore 5, 2) := by decide +kernel
theorem dL_set_17 : decode cL_set 17 = .ok (.iconst 1, 1) := by decide +kernel
theorem dL_set_18 : decode cL_set 18 = .ok (.ireturn, 1) := by decide +kernel
theorem dL_set_19 : decode cL_set 19 = .ok (.astore 5, 2) := by decide +kernel
theorem dL_set_21 : decode cL_set 21 = .ok (.iconst 2, 1) := by decide +kernel
theorem dL_set_22 : decode cL_set 22 = .ok (.ireturn, 1) := by decide +kernel
theorem dL_set_23 : decode cL_set 23 = .ok (.iconst 0, 1) := by decide +kernel
theorem dL_set_24 : decode cL_set 24 = .ok (.ireturn, 1) := by decide +kernel
set_option maxRecDepth 20000 in
theorem ggL_line_X4_line : GoodIn wsL_line wsX4_line := goodIn_ca (goodIn_ca (goodIn_r _ [7, 8, 9, 10, 11, 12, 13, 14, 15, 16, 17, 18, 19, 20, 21, 22, 23, 24, 25, 26, 27, 28, 29, 30, 31, 32, 33, 6, 34, 35, 36, 37, 38, 39, 40, 41, 42, 43, 44, 45, 46, 47, 48, 49, 50, 51, 52, 53, 54] (by decide +kernel) (by decide +kernel)) (goodIn_sub (fun _ h => List.mem_cons_of_mem _ (List.mem_append_left _ (List.mem_append_right _ h))) (by decide +kernel))) (goodIn_sub (fun _ h => List.mem_cons_of_mem _ (List.mem_append_right _ h)) (by decide +kernel))
set_option maxRecDepth 20000 in
theorem gL_line_X4_line : GoodIn wsL_line (wsV RL 21 RX4 yX4_line wsX4_line) := goodIn_app (goodIn_of _ (by decide +kernel)) ggL_line_X4_line
theorem dL_line_0 : decode cL_line 0 = .ok (.aload 5, 2) := by decide +kernel
theorem dL_line_2 : decode cL_line 2 = .ok (.iconst 0, 1) := by decide +kernel
theorem dL_line_3 : decode cL_line 3 = .ok (.aload_n 0, 1) := by decide +kernel
theorem dL_line_4 : decode cL_line 4 = .ok (.iload_n 1, 1) := by decide +kernel
theorem dL_line_5 : decode cL_line 5 = .ok (.iload_n 2, 1) := by decide +kernel
theorem dL_line_6 : decode cL_line 6 = .ok (.iload_n 3, 1) := by decide +kernel
theorem dL_line_7 : decode cL_line 7 = .ok (.iload 4, 2) := by decide +kernel
theorem dL_line_9 : decode cL_line 9 = .ok (.invokevirtual 21, 3) := by decide +kernel
theorem dL_line_12 : decode cL_line 12 = .ok (.i2l, 1) := by decide +kernel
theorem dL_line_13 : decode cL_line 13 = .ok (.lastore, 1) := by decide +kernel
theorem dL_line_14 : decode cL_line 14 = .ok (.goto 11, 3) := by decide +kernel
theorem dL_line_17 : decode cL_line 17 = .ok (.astore 6, 2) := by decide +kernel
theorem dL_line_19 : decode cL_line 19 = .ok (.iconst 1, 1) := by decide +kernel
theorem dL_line_20 : decode cL_line 20 = .ok (.ireturn, 1) := by decide +kernel
theorem dL_line_21 : decode cL_line 21 = .ok (.astore 6, 2) := by decide +kernel
theorem dL_line_23 : decode cL_line 23 = .ok (.iconst 2, 1) := by decide +kernel
theorem dL_line_24 : decode cL_line 24 = .ok (.ireturn, 1) := by decide +kernel
theorem dL_line_25 : decode cL_line 25 = .ok (.iconst 0, 1) := by decide +kernel
theorem dL_line_26 : decode cL_line 26 = .ok (.ireturn, 1) := by decide +kernel
set_option maxRecDepth 20000 in
theorem ggL_ring_X4_ring : GoodIn wsL_ring wsX4_ring := goodIn_ca (goodIn_ca (goodIn_r _ [7, 8, 9, 10, 11, 12, 13, 14, 15, 16, 17, 18, 19, 20, 21, 22, 23, 24, 25, 26, 6, 27, 28, 29, 30, 31, 32, 33, 34, 35, 36, 37, 38, 39, 40, 41, 42, 43, 44, 45, 46, 47, 48] (by decide +kernel) (by decide +kernel)) (goodIn_sub (fun _ h => List.mem_cons_of_mem _ (List.mem_append_left _ (List.mem_append_right _ h))) (by decide +kernel))) (goodIn_sub (fun _ h => List.mem_cons_of_mem _ (List.mem_append_right _ h)) (by decide +kernel))
set_option maxRecDepth 20000 in
theorem gL_ring_X4_ring : GoodIn wsL_ring (wsV RL 25 RX4 yX4_ring wsX4_ring) := goodIn_app (goodIn_of _ (by decide +kernel)) ggL_ring_X4_ring
theorem dL_ring_0 : decode cL_ring 0 = .ok (.aload 5, 2) := by decide +kernel
theorem dL_ring_2 : decode cL_ring 2 = .ok (.iconst 0, 1) := by decide +kernel
theorem dL_ring_3 : decode cL_ring 3 = .ok (.aload_n 0, 1) := by decide +kernel
theorem dL_ring_4 : decode cL_ring 4 = .ok (.iload_n 1, 1) := by decide +kernel
theorem dL_ring_5 : decode cL_ring 5 = .ok (.iload_n 2, 1) := by decide +kernel
theorem dL_ring_6 : decode cL_ring 6 = .ok (.iload_n 3, 1) := by decide +kernel
theorem dL_ring_7 : decode cL_ring 7 = .ok (.iload 4, 2) := by decide +kernel
theorem dL_ring_9 : decode cL_ring 9 = .ok (.invokevirtual 25, 3) := by decide +kernel
theorem dL_ring_12 : decode cL_ring 12 = .ok (.i2l, 1) := by decide +kernel
theorem dL_ring_13 : decode cL_ring 13 = .ok (.lastore, 1) := by decide +kernel
theorem dL_ring_14 : decode cL_ring 14 = .ok (.goto 11, 3) := by decide +kernel
theorem dL_ring_17 : decode cL_ring 17 = .ok (.astore 6, 2) := by decide +kernel
theorem dL_ring_19 : decode cL_ring 19 = .ok (.iconst 1, 1) := by decide +kernel
theorem dL_ring_20 : decode cL_ring 20 = .ok (.ireturn, 1) := by decide +kernel
theorem dL_ring_21 : decode cL_ring 21 = .ok (.astore 6, 2) := by decide +kernel
theorem dL_ring_23 : decode cL_ring 23 = .ok (.iconst 2, 1) := by decide +kernel
theorem dL_ring_24 : decode cL_ring 24 = .ok (.ireturn, 1) := by decide +kernel
theorem dL_ring_25 : decode cL_ring 25 = .ok (.iconst 0, 1) := by decide +kernel
theorem dL_ring_26 : decode cL_ring 26 = .ok (.ireturn, 1) := by decide +kernel
set_option maxRecDepth 20000 in
theorem ggL_stamp_X4_stamp : GoodIn wsL_stamp wsX4_stamp := goodIn_ca (goodIn_r _ [6, 7, 8, 9, 10, 11, 12, 13, 14, 15, 16, 17, 18, 19, 20, 21, 22, 23, 5, 24, 25, 26, 27, 28, 29, 30, 31, 32, 33, 34, 35, 36, 37, 38, 39, 40, 41, 42, 43, 44, 45] (by decide +kernel) (by decide +kernel)) (goodIn_sub (fun _ h => List.mem_cons_of_mem _ (List.mem_append_right _ h)) (by decide +kernel))
set_option maxRecDepth 20000 in
theorem gL_stamp_X4_stamp : GoodIn wsL_stamp (wsV RL 28 RX4 yX4_stamp wsX4_stamp) := goodIn_app (goodIn_of _ (by decide +kernel)) ggL_stamp_X4_stamp
theorem dL_stamp_0 : decode cL_stamp 0 = .ok (.aload 5, 2) := by decide +kernel
theorem dL_stamp_2 : decode cL_stamp 2 = .ok (.iconst 0, 1) := by decide +kernel
theorem dL_stamp_3 : decode cL_stamp 3 = .ok (.aload_n 0, 1) := by decide +kernel
theorem dL_stamp_4 : decode cL_stamp 4 = .ok (.iload_n 1, 1) := by decide +kernel
theorem dL_stamp_5 : decode cL_stamp 5 = .ok (.iload_n 2, 1) := by decide +kernel
theorem dL_stamp_6 : decode cL_stamp 6 = .ok (.iload_n 3, 1) := by decide +kernel
theorem dL_stamp_7 : decode cL_stamp 7 = .ok (.iload 4, 2) := by decide +kernel
theorem dL_stamp_9 : decode cL_stamp 9 = .ok (.invokevirtual 28, 3) := by decide +kernel
theorem dL_stamp_12 : decode cL_stamp 12 = .ok (.i2l, 1) := by decide +kernel
theorem dL_stamp_13 : decode cL_stamp 13 = .ok (.lastore, 1) := by decide +kernel
theorem dL_stamp_14 : decode cL_stamp 14 = .ok (.goto 7, 3) := by decide +kernel
theorem dL_stamp_17 : decode cL_stamp 17 = .ok (.astore 6, 2) := by decide +kernel
theorem dL_stamp_19 : decode cL_stamp 19 = .ok (.iconst 1, 1) := by decide +kernel
theorem dL_stamp_20 : decode cL_stamp 20 = .ok (.ireturn, 1) := by decide +kernel
theorem dL_stamp_21 : decode cL_stamp 21 = .ok (.iconst 0, 1) := by decide +kernel
theorem dL_stamp_22 : decode cL_stamp 22 = .ok (.ireturn, 1) := by decide +kernel
set_option maxRecDepth 20000 in
theorem ggL_spark_X4_spark : GoodIn wsL_spark wsX4_spark := goodIn_ca (goodIn_ca (goodIn_r _ [7, 8, 9, 10, 11, 12, 13, 14, 15, 16, 17, 18, 19, 20, 21, 22, 23, 24, 25, 26, 27, 28, 29, 30, 31, 32, 33, 34, 35, 36, 37, 38, 39, 40, 41, 42, 43, 44, 45, 46, 47, 48, 49, 50] (by decide +kernel) (by decide +kernel)) (goodIn_sub (fun _ h => List.mem_cons_of_mem _ (List.mem_append_left _ (List.mem_append_right _ h))) (by decide +kernel))) (goodIn_sub (fun _ h => List.mem_cons_of_mem _ (List.mem_append_right _ h)) (by decide +kernel))
set_option maxRecDepth 20000 in
theorem gL_spark_X4_spark : GoodIn wsL_spark (wsV RL 31 RX4 yX4_spark wsX4_spark) := goodIn_app (goodIn_of _ (by decide +kernel)) ggL_spark_X4_spark
theorem dL_spark_0 : decode cL_spark 0 = .ok (.aload 4, 2) := by decide +kernel
theorem dL_spark_2 : decode cL_spark 2 = .ok (.iconst 0, 1) := by decide +kernel
theorem dL_spark_3 : decode cL_spark 3 = .ok (.aload_n 0, 1) := by decide +kernel
theorem dL_spark_4 : decode cL_spark 4 = .ok (.iload_n 1, 1) := by decide +kernel
theorem dL_spark_5 : decode cL_spark 5 = .ok (.iload_n 2, 1) := by decide +kernel
theorem dL_spark_6 : decode cL_spark 6 = .ok (.iload_n 3, 1) := by decide +kernel
theorem dL_spark_7 : decode cL_spark 7 = .ok (.invokevirtual 31, 3) := by decide +kernel
theorem dL_spark_10 : decode cL_spark 10 = .ok (.i2l, 1) := by decide +kernel
theorem dL_spark_11 : decode cL_spark 11 = .ok (.lastore, 1) := by decide +kernel
theorem dL_spark_12 : decode cL_spark 12 = .ok (.goto 11, 3) := by decide +kernel
theorem dL_spark_15 : decode cL_spark 15 = .ok (.astore 5, 2) := by decide +kernel
theorem dL_spark_17 : decode cL_spark 17 = .ok (.iconst 1, 1) := by decide +kernel
theorem dL_spark_18 : decode cL_spark 18 = .ok (.ireturn, 1) := by decide +kernel
theorem dL_spark_19 : decode cL_spark 19 = .ok (.astore 5, 2) := by decide +kernel
theorem dL_spark_21 : decode cL_spark 21 = .ok (.iconst 2, 1) := by decide +kernel
theorem dL_spark_22 : decode cL_spark 22 = .ok (.ireturn, 1) := by decide +kernel
theorem dL_spark_23 : decode cL_spark 23 = .ok (.iconst 0, 1) := by decide +kernel
theorem dL_spark_24 : decode cL_spark 24 = .ok (.ireturn, 1) := by decide +kernel
set_option maxRecDepth 20000 in
theorem ggL_lamp_X4_lamp : GoodIn wsL_lamp wsX4_lamp := goodIn_ca (goodIn_ca (goodIn_r _ [7, 8, 9, 10, 11, 12, 13, 14, 15, 16, 17, 18, 19, 20, 21, 22, 23, 24, 25, 26, 27, 28, 29, 30, 31, 32, 33, 34, 35, 36, 37, 38, 39, 40, 41, 42, 43, 44, 45, 46, 47, 48, 49, 50] (by decide +kernel) (by decide +kernel)) (goodIn_sub (fun _ h => List.mem_cons_of_mem _ (List.mem_append_left _ (List.mem_append_right _ h))) (by decide +kernel))) (goodIn_sub (fun _ h => List.mem_cons_of_mem _ (List.mem_append_right _ h)) (by decide +kernel))
set_option maxRecDepth 20000 in
theorem gL_lamp_X4_lamp : GoodIn wsL_lamp (wsV RL 36 RX4 yX4_lamp wsX4_lamp) := goodIn_app (goodIn_of _ (by decide +kernel)) ggL_lamp_X4_lamp
theorem dL_lamp_0 : decode cL_lamp 0 = .ok (.aload_n 3, 1) := by decide +kernel
theorem dL_lamp_1 : decode cL_lamp 1 = .ok (.iconst 0, 1) := by decide +kernel
theorem dL_lamp_2 : decode cL_lamp 2 = .ok (.aload_n 0, 1) := by decide +kernel
theorem dL_lamp_3 : decode cL_lamp 3 = .ok (.iload_n 1, 1) := by decide +kernel
theorem dL_lamp_4 : decode cL_lamp 4 = .ok (.iload_n 2, 1) := by decide +kernel
theorem dL_lamp_5 : decode cL_lamp 5 = .ok (.invokevirtual 36, 3) := by decide +kernel
theorem dL_lamp_8 : decode cL_lamp 8 = .ok (.i2l, 1) := by decide +kernel
theorem dL_lamp_9 : decode cL_lamp 9 = .ok (.lastore, 1) := by decide +kernel
theorem dL_lamp_10 : decode cL_lamp 10 = .ok (.goto 11, 3) := by decide +kernel
theorem dL_lamp_13 : decode cL_lamp 13 = .ok (.astore 4, 2) := by decide +kernel
theorem dL_lamp_15 : decode cL_lamp 15 = .ok (.iconst 1, 1) := by decide +kernel
theorem dL_lamp_16 : decode cL_lamp 16 = .ok (.ireturn, 1) := by decide +kernel
theorem dL_lamp_17 : decode cL_lamp 17 = .ok (.astore 4, 2) := by decide +kernel
theorem dL_lamp_19 : decode cL_lamp 19 = .ok (.iconst 2, 1) := by decide +kernel
theorem dL_lamp_20 : decode cL_lamp 20 = .ok (.ireturn, 1) := by decide +kernel
theorem dL_lamp_21 : decode cL_lamp 21 = .ok (.iconst 0, 1) := by decide +kernel
theorem dL_lamp_22 : decode cL_lamp 22 = .ok (.ireturn, 1) := by decide +kernel
set_option maxRecDepth 20000 in
theorem ggL_pass_X4_pass : GoodIn wsL_pass wsX4_pass := goodIn_ca (goodIn_r _ [6, 7, 8, 9, 10, 11, 12, 13, 14, 15, 16, 17, 18, 19, 20, 21, 22, 23, 24, 25, 26, 27, 28, 29, 30, 31, 32, 33, 34, 35, 36, 37, 38, 39, 40, 41, 42, 43, 44, 45, 46, 47, 48, 49, 50, 51, 52, 53, 54, 55, 56, 57, 58, 59, 60, 61, 62, 63, 64, 65, 66, 67, 68, 69, 70, 71, 72, 73, 74, 75, 76, 77, 78, 79, 80, 81, 82, 83, 84, 85, 86, 87, 88] (by decide +kernel) (by decide +kernel)) (goodIn_sub (fun _ h => List.mem_cons_of_mem _ (List.mem_append_right _ h)) (by decide +kernel))
set_option maxRecDepth 20000 in
theorem gL_pass_X4_pass : GoodIn wsL_pass (wsV RL 39 RX4 yX4_pass wsX4_pass) := goodIn_app (goodIn_of _ (by decide +kernel)) ggL_pass_X4_pass
theorem dL_pass_0 : decode cL_pass 0 = .ok (.aload_n 2, 1) := by decide +kernel
theorem dL_pass_1 : decode cL_pass 1 = .ok (.iconst 0, 1) := by decide +kernel
theorem dL_pass_2 : decode cL_pass 2 = .ok (.aload_n 0, 1) := by decide +kernel
theorem dL_pass_3 : decode cL_pass 3 = .ok (.iload_n 1, 1) := by decide +kernel
theorem dL_pass_4 : decode cL_pass 4 = .ok (.invokevirtual 39, 3) := by decide +kernel
theorem dL_pass_7 : decode cL_pass 7 = .ok (.i2l, 1) := by decide +kernel
theorem dL_pass_8 : decode cL_pass 8 = .ok (.lastore, 1) := by decide +kernel
theorem dL_pass_9 : decode cL_pass 9 = .ok (.goto 6, 3) := by decide +kernel
theorem dL_pass_12 : decode cL_pass 12 = .ok (.astore_n 3, 1) := by decide +kernel
theorem dL_pass_13 : decode cL_pass 13 = .ok (.iconst 1, 1) := by decide +kernel
theorem dL_pass_14 : decode cL_pass 14 = .ok (.ireturn, 1) := by decide +kernel
theorem dL_pass_15 : decode cL_pass 15 = .ok (.iconst 0, 1) := by decide +kernel
theorem dL_pass_16 : decode cL_pass 16 = .ok (.ireturn, 1) := by decide +kernel
set_option maxRecDepth 20000 in
theorem ggL_told_X4_told : GoodIn wsL_told wsX4_told := goodIn_ca (goodIn_r _ [6, 7, 8, 9, 10, 11, 12, 13, 14, 15, 16, 17, 18, 19, 20, 21, 22, 23, 24, 25, 26, 27, 28, 29, 30, 31, 32, 33, 34, 35, 36, 37, 38, 39, 40, 41, 42, 43, 44, 45, 46, 47, 48, 49, 50, 51, 52, 53, 54, 55, 56, 57, 58, 59, 60, 61, 62, 63, 64, 65, 66, 67, 68, 69, 70, 71, 72, 73, 74, 75, 76, 77, 78, 79] (by decide +kernel) (by decide +kernel)) (goodIn_sub (fun _ h => List.mem_cons_of_mem _ (List.mem_append_right _ h)) (by decide +kernel))
set_option maxRecDepth 20000 in
theorem gL_told_X4_told : GoodIn wsL_told (wsV RL 43 RX4 yX4_told wsX4_told) := goodIn_app (goodIn_of _ (by decide +kernel)) ggL_told_X4_told
theorem dL_told_0 : decode cL_told 0 = .ok (.aload 4, 2) := by decide +kernel
theorem dL_told_2 : decode cL_told 2 = .ok (.iconst 0, 1) := by decide +kernel
theorem dL_told_3 : decode cL_told 3 = .ok (.aload_n 0, 1) := by decide +kernel
theorem dL_told_4 : decode cL_told 4 = .ok (.iload_n 1, 1) := by decide +kernel
theorem dL_told_5 : decode cL_told 5 = .ok (.iload_n 2, 1) := by decide +kernel
theorem dL_told_6 : decode cL_told 6 = .ok (.iload_n 3, 1) := by decide +kernel
theorem dL_told_7 : decode cL_told 7 = .ok (.invokevirtual 43, 3) := by decide +kernel
theorem dL_told_10 : decode cL_told 10 = .ok (.i2l, 1) := by decide +kernel
theorem dL_told_11 : decode cL_told 11 = .ok (.lastore, 1) := by decide +kernel
theorem dL_told_12 : decode cL_told 12 = .ok (.goto 7, 3) := by decide +kernel
theorem dL_told_15 : decode cL_told 15 = .ok (.astore 5, 2) := by decide +kernel
theorem dL_told_17 : decode cL_told 17 = .ok (.iconst 1, 1) := by decide +kernel
theorem dL_told_18 : decode cL_told 18 = .ok (.ireturn, 1) := by decide +kernel
theorem dL_told_19 : decode cL_told 19 = .ok (.iconst 0, 1) := by decide +kernel
theorem dL_told_20 : decode cL_told 20 = .ok (.ireturn, 1) := by decide +kernel
set_option maxRecDepth 20000 in
theorem ggL_about_X4_about : GoodIn wsL_about wsX4_about := goodIn_ca (goodIn_r _ [6, 7, 8, 9, 10, 11, 12, 13, 14, 15, 16, 17, 18, 19, 20, 21, 22, 23, 24, 25, 26, 27, 28, 29, 30, 31, 32, 33, 34, 35, 36, 37, 38, 39, 40, 41, 42, 43, 44, 45, 46, 47, 48, 49, 50, 51] (by decide +kernel) (by decide +kernel)) (goodIn_sub (fun _ h => List.mem_cons_of_mem _ (List.mem_append_right _ h)) (by decide +kernel))
set_option maxRecDepth 20000 in
theorem gL_about_X4_about : GoodIn wsL_about (wsV RL 46 RX4 yX4_about wsX4_about) := goodIn_app (goodIn_of _ (by decide +kernel)) ggL_about_X4_about
theorem dL_about_0 : decode cL_about 0 = .ok (.aload_n 3, 1) := by decide +kernel
theorem dL_about_1 : decode cL_about 1 = .ok (.iconst 0, 1) := by decide +kernel
theorem dL_about_2 : decode cL_about 2 = .ok (.aload_n 0, 1) := by decide +kernel
theorem dL_about_3 : decode cL_about 3 = .ok (.iload_n 1, 1) := by decide +kernel
theorem dL_about_4 : decode cL_about 4 = .ok (.iload_n 2, 1) := by decide +kernel
theorem dL_about_5 : decode cL_about 5 = .ok (.invokevirtual 46, 3) := by decide +kernel
theorem dL_about_8 : decode cL_about 8 = .ok (.i2l, 1) := by decide +kernel
theorem dL_about_9 : decode cL_about 9 = .ok (.lastore, 1) := by decide +kernel
theorem dL_about_10 : decode cL_about 10 = .ok (.goto 7, 3) := by decide +kernel
theorem dL_about_13 : decode cL_about 13 = .ok (.astore 4, 2) := by decide +kernel
theorem dL_about_15 : decode cL_about 15 = .ok (.iconst 1, 1) := by decide +kernel
theorem dL_about_16 : decode cL_about 16 = .ok (.ireturn, 1) := by decide +kernel
theorem dL_about_17 : decode cL_about 17 = .ok (.iconst 0, 1) := by decide +kernel
theorem dL_about_18 : decode cL_about 18 = .ok (.ireturn, 1) := by decide +kernel
set_option maxRecDepth 20000 in
theorem ggL_count_X4_count : GoodIn wsL_count wsX4_count := goodIn_ca (goodIn_r _ [6, 7, 8, 9, 10, 11, 12, 13, 14, 15, 16, 17, 18, 19, 20, 21, 22, 23, 24, 25, 26, 27, 28, 29, 30, 31, 32, 33, 34, 35, 36, 37, 38, 39, 40, 41, 42, 43, 44, 45, 46, 47, 48, 49, 50, 51, 52, 53, 54, 55, 56, 57, 58, 59, 60, 61, 62, 63, 64, 65, 66, 67, 68, 69, 70, 71, 72, 73, 74, 75, 76, 77, 78, 79, 80, 81, 82, 83, 84, 85, 86, 87, 88, 89, 90, 91, 92, 93, 94, 95, 96, 97, 98, 99, 100, 101, 102, 103, 104, 105] (by decide +kernel) (by decide +kernel)) (goodIn_sub (fun _ h => List.mem_cons_of_mem _ (List.mem_append_right _ h)) (by decide +kernel))
set_option maxRecDepth 20000 in
theorem gL_count_X4_count : GoodIn wsL_count (wsV RL 49 RX4 yX4_count wsX4_count) := goodIn_app (goodIn_of _ (by decide +kernel)) ggL_count_X4_count
theorem dL_count_0 : decode cL_count 0 = .ok (.aload_n 2, 1) := by decide +kernel
theorem dL_count_1 : decode cL_count 1 = .ok (.iconst 0, 1) := by decide +kernel
theorem dL_count_2 : decode cL_count 2 = .ok (.aload_n 0, 1) := by decide +kernel
theorem dL_count_3 : decode cL_count 3 = .ok (.iload_n 1, 1) := by decide +kernel
theorem dL_count_4 : decode cL_count 4 = .ok (.invokevirtual 49, 3) := by decide +kernel
theorem dL_count_7 : decode cL_count 7 = .ok (.i2l, 1) := by decide +kernel
theorem dL_count_8 : decode cL_count 8 = .ok (.lastore, 1) := by decide +kernel
theorem dL_count_9 : decode cL_count 9 = .ok (.goto 6, 3) := by decide +kernel
theorem dL_count_12 : decode cL_count 12 = .ok (.astore_n 3, 1) := by decide +kernel
theorem dL_count_13 : decode cL_count 13 = .ok (.iconst 1, 1) := by decide +kernel
theorem dL_count_14 : decode cL_count 14 = .ok (.ireturn, 1) := by decide +kernel
theorem dL_count_15 : decode cL_count 15 = .ok (.iconst 0, 1) := by decide +kernel
theorem dL_count_16 : decode cL_count 16 = .ok (.ireturn, 1) := by decide +kernel
set_option maxRecDepth 20000 in
theorem ggL_way_X4_way : GoodIn wsL_way wsX4_way := goodIn_ca (goodIn_r _ [6, 7, 8, 9, 10, 11, 12, 13, 14, 15, 16, 17, 18, 19, 20, 21, 22, 23, 24, 25, 26, 27, 28, 29, 30, 31, 32, 33, 34, 35, 36, 37, 38, 39, 40, 41, 42, 43, 44, 45, 46, 47, 48, 49, 50, 51, 52, 53, 54, 55, 56, 57, 58, 59, 60, 61] (by decide +kernel) (by decide +kernel)) (goodIn_sub (fun _ h => List.mem_cons_of_mem _ (List.mem_append_right _ h)) (by decide +kernel))
set_option maxRecDepth 20000 in
theorem gL_way_X4_way : GoodIn wsL_way (wsV RL 52 RX4 yX4_way wsX4_way) := goodIn_app (goodIn_of _ (by decide +kernel)) ggL_way_X4_way
theorem dL_way_0 : decode cL_way 0 = .ok (.aload 5, 2) := by decide +kernel
theorem dL_way_2 : decode cL_way 2 = .ok (.iconst 0, 1) := by decide +kernel
theorem dL_way_3 : decode cL_way 3 = .ok (.aload_n 0, 1) := by decide +kernel
theorem dL_way_4 : decode cL_way 4 = .ok (.iload_n 1, 1) := by decide +kernel
theorem dL_way_5 : decode cL_way 5 = .ok (.iload_n 2, 1) := by decide +kernel
theorem dL_way_6 : decode cL_way 6 = .ok (.iload_n 3, 1) := by decide +kernel
theorem dL_way_7 : decode cL_way 7 = .ok (.iload 4, 2) := by decide +kernel
theorem dL_way_9 : decode cL_way 9 = .ok (.invokevirtual 52, 3) := by decide +kernel
theorem dL_way_12 : decode cL_way 12 = .ok (.i2l, 1) := by decide +kernel
theorem dL_way_13 : decode cL_way 13 = .ok (.lastore, 1) := by decide +kernel
theorem dL_way_14 : decode cL_way 14 = .ok (.goto 7, 3) := by decide +kernel
theorem dL_way_17 : decode cL_way 17 = .ok (.astore 6, 2) := by decide +kernel
theorem dL_way_19 : decode cL_way 19 = .ok (.iconst 1, 1) := by decide +kernel
theorem dL_way_20 : decode cL_way 20 = .ok (.ireturn, 1) := by decide +kernel
theorem dL_way_21 : decode cL_way 21 = .ok (.iconst 0, 1) := by decide +kernel
theorem dL_way_22 : decode cL_way 22 = .ok (.ireturn, 1) := by decide +kernel
set_option maxRecDepth 20000 in
theorem ggL_period_X4_period : GoodIn wsL_period wsX4_period := goodIn_ca (goodIn_r _ [6, 7, 8, 9, 10, 11, 12, 13, 14, 15, 16, 17, 18, 19, 20, 21, 22, 23, 24, 25, 26, 27, 28, 29, 30, 31, 32, 33, 34, 35, 36, 37, 38, 39, 40, 41, 42, 43, 44, 45, 46, 47, 48, 49, 50, 51, 52, 53, 54, 55, 56, 57, 58, 59, 60, 61, 62, 63, 64, 65, 66, 67, 68, 69, 70, 71, 72, 73, 74, 75, 76, 77, 78, 79, 80, 81, 82, 83, 84, 85, 86, 87, 88, 89] (by decide +kernel) (by decide +kernel)) (goodIn_sub (fun _ h => List.mem_cons_of_mem _ (List.mem_append_right _ h)) (by decide +kernel))
set_option maxRecDepth 20000 in
theorem gL_period_X4_period : GoodIn wsL_period (wsV RL 55 RX4 yX4_period wsX4_period) := goodIn_app (goodIn_of _ (by decide +kernel)) ggL_period_X4_period
theorem dL_period_0 : decode cL_period 0 = .ok (.aload_n 2, 1) := by decide +kernel
theorem dL_period_1 : decode cL_period 1 = .ok (.iconst 0, 1) := by decide +kernel
theorem dL_period_2 : decode cL_period 2 = .ok (.aload_n 0, 1) := by decide +kernel
theorem dL_period_3 : decode cL_period 3 = .ok (.iload_n 1, 1) := by decide +kernel
theorem dL_period_4 : decode cL_period 4 = .ok (.invokevirtual 55, 3) := by decide +kernel
theorem dL_period_7 : decode cL_period 7 = .ok (.i2l, 1) := by decide +kernel
theorem dL_period_8 : decode cL_period 8 = .ok (.lastore, 1) := by decide +kernel
theorem dL_period_9 : decode cL_period 9 = .ok (.goto 6, 3) := by decide +kernel
theorem dL_period_12 : decode cL_period 12 = .ok (.astore_n 3, 1) := by decide +kernel
theorem dL_period_13 : decode cL_period 13 = .ok (.iconst 1, 1) := by decide +kernel
theorem dL_period_14 : decode cL_period 14 = .ok (.ireturn, 1) := by decide +kernel
theorem dL_period_15 : decode cL_period 15 = .ok (.iconst 0, 1) := by decide +kernel
theorem dL_period_16 : decode cL_period 16 = .ok (.ireturn, 1) := by decide +kernel
set_option maxRecDepth 20000 in
theorem ggL_until_X4_until : GoodIn wsL_until wsX4_until := goodIn_ca (goodIn_r _ [6, 7, 8, 9, 10, 11, 12, 13, 14, 15, 16, 17, 18, 19, 20, 21, 22, 23, 24, 25, 26, 27, 28, 29, 30, 31, 32, 33, 34, 35, 36, 37, 38, 39, 40, 41, 42, 43, 44, 45, 46, 47, 48, 49, 50, 51, 52, 53, 54, 55, 56, 57, 58, 59, 60, 61, 62, 63, 64, 65, 66, 67, 68, 69, 70, 71] (by decide +kernel) (by decide +kernel)) (goodIn_sub (fun _ h => List.mem_cons_of_mem _ (List.mem_append_right _ h)) (by decide +kernel))
set_option maxRecDepth 20000 in
theorem gL_until_X4_until : GoodIn wsL_until (wsV RL 58 RX4 yX4_until wsX4_until) := goodIn_app (goodIn_of _ (by decide +kernel)) ggL_until_X4_until
theorem dL_until_0 : decode cL_until 0 = .ok (.aload_n 3, 1) := by decide +kernel
theorem dL_until_1 : decode cL_until 1 = .ok (.iconst 0, 1) := by decide +kernel
theorem dL_until_2 : decode cL_until 2 = .ok (.aload_n 0, 1) := by decide +kernel
theorem dL_until_3 : decode cL_until 3 = .ok (.iload_n 1, 1) := by decide +kernel
theorem dL_until_4 : decode cL_until 4 = .ok (.iload_n 2, 1) := by decide +kernel
theorem dL_until_5 : decode cL_until 5 = .ok (.invokevirtual 58, 3) := by decide +kernel
theorem dL_until_8 : decode cL_until 8 = .ok (.i2l, 1) := by decide +kernel
theorem dL_until_9 : decode cL_until 9 = .ok (.lastore, 1) := by decide +kernel
theorem dL_until_10 : decode cL_until 10 = .ok (.goto 7, 3) := by decide +kernel
theorem dL_until_13 : decode cL_until 13 = .ok (.astore 4, 2) := by decide +kernel
theorem dL_until_15 : decode cL_until 15 = .ok (.iconst 1, 1) := by decide +kernel
theorem dL_until_16 : decode cL_until 16 = .ok (.ireturn, 1) := by decide +kernel
theorem dL_until_17 : decode cL_until 17 = .ok (.iconst 0, 1) := by decide +kernel
theorem dL_until_18 : decode cL_until 18 = .ok (.ireturn, 1) := by decide +kernel
set_option maxRecDepth 20000 in
theorem ggL_foresee_X4_foresee : GoodIn wsL_foresee wsX4_foresee := goodIn_ca (goodIn_ca (goodIn_r _ [7, 8, 9, 10, 11, 12, 13, 14, 15, 16, 17, 18, 19, 20, 21, 22, 23, 24, 25, 26, 27, 28, 29, 30, 31, 32, 33, 34, 35, 36, 37, 38, 39, 40, 41, 42, 43, 44, 45, 46, 47, 48, 49, 50, 51, 52, 53, 54, 55, 56, 57, 58, 59, 60, 61, 62, 63, 64, 65, 66, 67, 68, 69, 70, 71, 72, 73, 74, 75, 76, 77, 78, 79, 80, 81, 82, 83, 84, 85, 86, 87, 88, 89, 90, 91, 92, 93, 94, 95, 96, 97, 98, 99, 100, 101] (by decide +kernel) (by decide +kernel)) (goodIn_sub (fun _ h => List.mem_cons_of_mem _ (List.mem_append_left _ (List.mem_append_right _ h))) (by decide +kernel))) (goodIn_sub (fun _ h => List.mem_cons_of_mem _ (List.mem_append_right _ h)) (by decide +kernel))
set_option maxRecDepth 20000 in
theorem gL_foresee_X4_foresee : GoodIn wsL_foresee (wsV RL 61 RX4 yX4_foresee wsX4_foresee) := goodIn_app (goodIn_of _ (by decide +kernel)) ggL_foresee_X4_foresee
theorem dL_foresee_0 : decode cL_foresee 0 = .ok (.aload_n 3, 1) := by decide +kernel
theorem dL_foresee_1 : decode cL_foresee 1 = .ok (.iconst 0, 1) := by decide +kernel
theorem dL_foresee_2 : decode cL_foresee 2 = .ok (.aload_n 0, 1) := by decide +kernel
theorem dL_foresee_3 : decode cL_foresee 3 = .ok (.iload_n 1, 1) := by decide +kernel
theorem dL_foresee_4 : decode cL_foresee 4 = .ok (.iload_n 2, 1) := by decide +kernel
theorem dL_foresee_5 : decode cL_foresee 5 = .ok (.invokevirtual 61, 3) := by decide +kernel
theorem dL_foresee_8 : decode cL_foresee 8 = .ok (.i2l, 1) := by decide +kernel
theorem dL_foresee_9 : decode cL_foresee 9 = .ok (.lastore, 1) := by decide +kernel
theorem dL_foresee_10 : decode cL_foresee 10 = .ok (.goto 11, 3) := by decide +kernel
theorem dL_foresee_13 : decode cL_foresee 13 = .ok (.astore 4, 2) := by decide +kernel
theorem dL_foresee_15 : decode cL_foresee 15 = .ok (.iconst 1, 1) := by decide +kernel
theorem dL_foresee_16 : decode cL_foresee 16 = .ok (.ireturn, 1) := by decide +kernel
theorem dL_foresee_17 : decode cL_foresee 17 = .ok (.astore 4, 2) := by decide +kernel
theorem dL_foresee_19 : decode cL_foresee 19 = .ok (.iconst 2, 1) := by decide +kernel
theorem dL_foresee_20 : decode cL_foresee 20 = .ok (.ireturn, 1) := by decide +kernel
theorem dL_foresee_21 : decode cL_foresee 21 = .ok (.iconst 0, 1) := by decide +kernel
theorem dL_foresee_22 : decode cL_foresee 22 = .ok (.ireturn, 1) := by decide +kernel
set_option maxRecDepth 20000 in
theorem ggL_advise_X4_advise : GoodIn wsL_advise wsX4_advise := goodIn_ca (goodIn_r _ [6, 7, 8, 9, 10, 11, 12, 13, 14, 15, 16, 17, 18, 19, 20, 21, 22, 23, 24, 25, 5, 26, 27, 28, 29, 30, 31, 32, 33, 34, 35, 36, 37, 38, 39, 40, 41, 42, 43, 44, 45, 46, 47, 48, 49, 50, 51, 52, 53, 54, 55, 56, 57, 58, 59, 60, 61, 62, 63, 64, 65, 66, 67, 68, 69, 70, 71, 72, 73, 74, 75, 76, 77, 78, 79, 80, 81, 82, 83] (by decide +kernel) (by decide +kernel)) (goodIn_sub (fun _ h => List.mem_cons_of_mem _ (List.mem_append_right _ h)) (by decide +kernel))
set_option maxRecDepth 20000 in
theorem gL_advise_X4_advise : GoodIn wsL_advise (wsV RL 64 RX4 yX4_advise wsX4_advise) := goodIn_app (goodIn_of _ (by decide +kernel)) ggL_advise_X4_advise
theorem dL_advise_0 : decode cL_advise 0 = .ok (.aload_n 2, 1) := by decide +kernel
theorem dL_advise_1 : decode cL_advise 1 = .ok (.iconst 0, 1) := by decide +kernel
theorem dL_advise_2 : decode cL_advise 2 = .ok (.aload_n 0, 1) := by decide +kernel
theorem dL_advise_3 : decode cL_advise 3 = .ok (.iload_n 1, 1) := by decide +kernel
theorem dL_advise_4 : decode cL_advise 4 = .ok (.invokevirtual 64, 3) := by decide +kernel
theorem dL_advise_7 : decode cL_advise 7 = .ok (.i2l, 1) := by decide +kernel
theorem dL_advise_8 : decode cL_advise 8 = .ok (.lastore, 1) := by decide +kernel
theorem dL_advise_9 : decode cL_advise 9 = .ok (.goto 6, 3) := by decide +kernel
theorem dL_advise_12 : decode cL_advise 12 = .ok (.astore_n 3, 1) := by decide +kernel
theorem dL_advise_13 : decode cL_advise 13 = .ok (.iconst 1, 1) := by decide +kernel
theorem dL_advise_14 : decode cL_advise 14 = .ok (.ireturn, 1) := by decide +kernel
theorem dL_advise_15 : decode cL_advise 15 = .ok (.iconst 0, 1) := by decide +kernel
theorem dL_advise_16 : decode cL_advise 16 = .ok (.ireturn, 1) := by decide +kernel
set_option maxRecDepth 20000 in
theorem ggL_law_X4_init : GoodIn wsL_law wsX4_init := goodIn_r _ [9, 10, 11, 12, 13, 14, 15, 16, 17, 18, 19, 20, 21, 22, 23, 24, 25, 26, 27, 28, 29, 30, 31, 32, 33, 34, 35, 36, 37, 38, 39, 40, 41, 42, 43, 44, 45, 46, 47, 48, 49, 50, 51, 52, 53, 54, 55, 56, 57, 58, 59, 60, 6, 61, 615, 616, 617, 618, 594, 595, 596, 597, 598, 599, 600, 619, 620, 621, 622, 623, 624, 625, 626, 627] (by decide +kernel) (by decide +kernel)
set_option maxRecDepth 20000 in
theorem gL_law_X4_init : GoodIn wsL_law (wsX4_init) := ggL_law_X4_init
set_option maxRecDepth 20000 in
theorem ggL_law_X5_init : GoodIn wsL_law wsX5_init := goodIn_r _ [64, 65, 11, 12, 66, 67, 38, 68, 69, 70, 71, 72, 73, 74, 75, 601, 602, 603, 604, 605, 606, 607, 608, 609, 610, 611, 612, 613, 614] (by decide +kernel) (by decide +kernel)
set_option maxRecDepth 20000 in
theorem gL_law_X5_init : GoodIn wsL_law (wsX5_init) := ggL_law_X5_init
set_option maxRecDepth 20000 in
theorem ggL_law_L_setBoard : GoodIn wsL_law wsL_setBoard := goodIn_ca (goodIn_r _ [79, 80, 81, 82, 83, 2, 84, 85, 86, 16, 25, 87, 88, 89, 90, 91, 92, 15, 93, 36, 37, 39, 94, 95, 96, 97, 98, 99, 100, 24, 101, 52, 102, 103, 104, 105, 594, 595, 596, 597, 598, 599, 600, 615, 616, 617, 618, 622, 623, 624, 625, 626] (by decide +kernel) (by decide +kernel)) (goodIn_sub (fun _ h => List.mem_append_left _ (List.mem_append_left _ (List.mem_append_right _ h))) (by decide +kernel))
set_option maxRecDepth 20000 in
theorem gL_law_L_setBoard : GoodIn wsL_law (va_wsS RL 71 yL_setBoard wsL_setBoard) := goodIn_app (goodIn_of _ (by decide +kernel)) ggL_law_L_setBoard
set_option maxRecDepth 20000 in
theorem ggL_law_X5_setBoard : GoodIn wsL_law wsX5_setBoard := goodIn_r _ [109, 110, 66, 67, 111, 68, 112, 113, 5, 114, 115, 116, 117, 118, 601, 602, 603, 604, 605, 606, 607, 608, 609, 610, 611, 612, 613, 614] (by decide +kernel) (by decide +kernel)
set_option maxRecDepth 20000 in
theorem gL_law_X5_setBoard : GoodIn wsL_law (wsV RL 76 RX5 yX5_setBoard wsX5_setBoard) := goodIn_app (goodIn_of _ (by decide +kernel)) ggL_law_X5_setBoard
set_option maxRecDepth 20000 in
theorem ggL_law_X5_thrown : GoodIn wsL_law wsX5_thrown := goodIn_r _ [122, 110, 601, 602, 603, 604, 605, 606, 607, 608, 609, 610, 611, 612, 613, 614] (by decide +kernel) (by decide +kernel)
set_option maxRecDepth 20000 in
theorem gL_law_X5_thrown : GoodIn wsL_law (wsV RL 77 RX5 yX5_thrown wsX5_thrown) := goodIn_app (goodIn_of _ (by decide +kernel)) ggL_law_X5_thrown
set_option maxRecDepth 20000 in
theorem ggL_law_L_set : GoodIn wsL_law wsL_set := goodIn_ca (goodIn_ca (goodIn_r _ [125, 126, 80, 127, 128, 129, 2, 130, 131, 132, 85, 86, 16, 133, 134, 135, 15, 136, 36, 37, 137, 138, 139, 140, 39, 141, 142, 143, 144, 594, 595, 596, 597, 598, 599, 600, 615, 616, 617, 618] (by decide +kernel) (by decide +kernel)) (goodIn_sub (fun _ h => List.mem_append_left _ (List.mem_append_right _ h)) (by decide +kernel))) (goodIn_sub (fun _ h => List.mem_append_left _ (List.mem_append_left _ (List.mem_append_right _ h))) (by decide +kernel))
set_option maxRecDepth 20000 in
theorem gL_law_L_set : GoodIn wsL_law (va_wsS RL 81 yL_set wsL_set) := goodIn_app (goodIn_of _ (by decide +kernel)) ggL_law_L_set
set_option maxRecDepth 20000 in
theorem ggL_law_X5_set : GoodIn wsL_law wsX5_set := goodIn_r _ [148, 110, 68, 149, 150, 151, 5, 152, 66, 67, 112, 113, 114, 115, 116, 117, 118, 153, 154, 155, 601, 602, 603, 604, 605, 606, 607, 608, 609, 610, 611, 612, 613, 614] (by decide +kernel) (by decide +kernel)
set_option maxRecDepth 20000 in
theorem gL_law_X5_set : GoodIn wsL_law (wsV RL 84 RX5 yX5_set wsX5_set) := goodIn_app (goodIn_of _ (by decide +kernel)) ggL_law_X5_set
set_option maxRecDepth 20000 in
theorem ggL_law_L_line : GoodIn wsL_law wsL_line := goodIn_ca (goodIn_ca (goodIn_r _ [158, 126, 80, 159, 160, 161, 2, 162, 131, 132, 85, 86, 16, 163, 164, 165, 166, 167, 168, 169, 133, 134, 135, 15, 136, 36, 37, 170, 171, 172, 173, 174, 175, 176, 177, 137, 138, 139, 140, 39, 141, 142, 143, 144, 594, 595, 596, 597, 598, 599, 600, 615, 616, 617, 618] (by decide +kernel) (by decide +kernel)) (goodIn_sub (fun _ h => List.mem_append_left _ (List.mem_append_right _ h)) (by decide +kernel))) (goodIn_sub (fun _ h => List.mem_append_left _ (List.mem_append_left _ (List.mem_append_right _ h))) (by decide +kernel))
set_option maxRecDepth 20000 in
theorem gL_law_L_line : GoodIn wsL_law (va_wsS RL 85 yL_line wsL_line) := goodIn_app (goodIn_of _ (by decide +kernel)) ggL_law_L_line
set_option maxRecDepth 20000 in
theorem ggL_law_X5_line : GoodIn wsL_law wsX5_line := goodIn_r _ [181, 110, 182, 164, 165, 166, 149, 150, 151, 5, 152, 66, 67, 112, 113, 114, 115, 116, 117, 118, 183, 184, 172, 185, 153, 154, 155, 186, 187, 188, 189, 68, 601, 602, 603, 604, 605, 606, 607, 608, 609, 610, 611, 612, 613, 614] (by decide +kernel) (by decide +kernel)
set_option maxRecDepth 20000 in
theorem gL_law_X5_line : GoodIn wsL_law (wsV RL 88 RX5 yX5_line wsX5_line) := goodIn_app (goodIn_of _ (by decide +kernel)) ggL_law_X5_line
set_option maxRecDepth 20000 in
theorem ggL_law_L_ring : GoodIn wsL_law wsL_ring := goodIn_ca (goodIn_ca (goodIn_r _ [192, 80, 126, 193, 194, 195, 2, 196, 85, 86, 131, 132, 16, 197, 198, 199, 15, 200, 36, 37, 201, 134, 135, 136, 174, 175, 176, 177, 133, 137, 138, 139, 140, 39, 141, 142, 143, 144, 594, 595, 596, 597, 598, 599, 600, 615, 616, 617, 618] (by decide +kernel) (by decide +kernel)) (goodIn_sub (fun _ h => List.mem_append_left _ (List.mem_append_left _ (List.mem_append_right _ h))) (by decide +kernel))) (goodIn_sub (fun _ h => List.mem_append_left _ (List.mem_append_right _ h)) (by decide +kernel))
set_option maxRecDepth 20000 in
theorem gL_law_L_ring : GoodIn wsL_law (va_wsS RL 89 yL_ring wsL_ring) := goodIn_app (goodIn_of _ (by decide +kernel)) ggL_law_L_ring
set_option maxRecDepth 20000 in
theorem ggL_law_X5_ring : GoodIn wsL_law wsX5_ring := goodIn_r _ [205, 110, 66, 67, 115, 116, 117, 5, 118, 149, 150, 151, 152, 112, 113, 114, 153, 154, 155, 186, 187, 188, 189, 68, 601, 602, 603, 604, 605, 606, 607, 608, 609, 610, 611, 612, 613, 614] (by decide +kernel) (by decide +kernel)
set_option maxRecDepth 20000 in
theorem gL_law_X5_ring : GoodIn wsL_law (wsV RL 91 RX5 yX5_ring wsX5_ring) := goodIn_app (goodIn_of _ (by decide +kernel)) ggL_law_X5_ring
set_option maxRecDepth 20000 in
theorem ggL_law_L_stamp : GoodIn wsL_law wsL_stamp := goodIn_ca (goodIn_r _ [208, 126, 209, 210, 211, 2, 212, 131, 132, 16, 213, 197, 198, 199, 15, 200, 36, 37, 201, 134, 135, 136, 214, 215, 216, 133, 137, 138, 139, 140, 39, 141, 142, 143, 144, 594, 595, 596, 597, 598, 599, 600, 615, 616, 617, 618] (by decide +kernel) (by decide +kernel)) (goodIn_sub (fun _ h => List.mem_append_left _ (List.mem_append_right _ h)) (by decide +kernel))
set_option maxRecDepth 20000 in
theorem gL_law_L_stamp : GoodIn wsL_law (va_wsS RL 92 yL_stamp wsL_stamp) := goodIn_app (goodIn_of _ (by decide +kernel)) ggL_law_L_stamp
set_option maxRecDepth 20000 in
theorem ggL_law_X5_stamp : GoodIn wsL_law wsX5_stamp := goodIn_r _ [220, 110, 66, 67, 221, 68, 112, 113, 5, 114, 149, 150, 151, 152, 115, 116, 117, 118, 153, 154, 155, 601, 602, 603, 604, 605, 606, 607, 608, 609, 610, 611, 612, 613, 614] (by decide +kernel) (by decide +kernel)
set_option maxRecDepth 20000 in
theorem gL_law_X5_stamp : GoodIn wsL_law (wsV RL 94 RX5 yX5_stamp wsX5_stamp) := goodIn_app (goodIn_of _ (by decide +kernel)) ggL_law_X5_stamp
set_option maxRecDepth 20000 in
theorem ggL_law_L_spark : GoodIn wsL_law wsL_spark := goodIn_ca (goodIn_ca (goodIn_r _ [224, 126, 225, 226, 227, 228, 2, 229, 131, 132, 230, 231, 16, 232, 233, 133, 134, 135, 15, 136, 36, 37, 137, 138, 139, 140, 39, 141, 142, 143, 144, 234, 235, 236, 237, 238, 103, 104, 105, 239, 594, 595, 596, 597, 598, 599, 600, 615, 616, 617, 618] (by decide +kernel) (by decide +kernel)) (goodIn_sub (fun _ h => List.mem_append_left _ (List.mem_append_right _ h)) (by decide +kernel))) (goodIn_sub (fun _ h => List.mem_append_right _ h) (by decide +kernel))
set_option maxRecDepth 20000 in
theorem gL_law_L_spark : GoodIn wsL_law (va_wsS RL 95 yL_spark wsL_spark) := goodIn_app (goodIn_of _ (by decide +kernel)) ggL_law_L_spark
set_option maxRecDepth 20000 in
theorem ggL_law_X5_spark : GoodIn wsL_law wsX5_spark := goodIn_r _ [243, 110, 244, 68, 149, 150, 151, 5, 152, 66, 67, 112, 113, 114, 115, 116, 117, 118, 153, 154, 155, 245, 246, 247, 248, 249, 250, 251, 252, 601, 602, 603, 604, 605, 606, 607, 608, 609, 610, 611, 612, 613, 614] (by decide +kernel) (by decide +kernel)
set_option maxRecDepth 20000 in
theorem gL_law_X5_spark : GoodIn wsL_law (wsV RL 97 RX5 yX5_spark wsX5_spark) := goodIn_app (goodIn_of _ (by decide +kernel)) ggL_law_X5_spark
set_option maxRecDepth 20000 in
theorem ggL_law_L_lamp : GoodIn wsL_law wsL_lamp := goodIn_ca (goodIn_ca (goodIn_r _ [255, 126, 225, 256, 257, 258, 2, 259, 131, 132, 230, 231, 16, 25, 133, 134, 135, 15, 136, 36, 37, 260, 261, 262, 24, 263, 52, 264, 265, 266, 267, 53, 54, 55, 56, 594, 595, 596, 597, 598, 599, 600, 615, 616, 617, 618, 622, 623, 624, 625, 626] (by decide +kernel) (by decide +kernel)) (goodIn_sub (fun _ h => List.mem_append_left _ (List.mem_append_right _ h)) (by decide +kernel))) (goodIn_sub (fun _ h => List.mem_append_right _ h) (by decide +kernel))
set_option maxRecDepth 20000 in
theorem gL_law_L_lamp : GoodIn wsL_law (va_wsS RL 98 yL_lamp wsL_lamp) := goodIn_app (goodIn_of _ (by decide +kernel)) ggL_law_L_lamp
set_option maxRecDepth 20000 in
theorem ggL_law_X5_lamp : GoodIn wsL_law wsX5_lamp := goodIn_r _ [271, 110, 111, 71, 149, 150, 151, 5, 152, 66, 67, 112, 113, 114, 115, 116, 117, 118, 153, 154, 155, 601, 602, 603, 604, 605, 606, 607, 608, 609, 610, 611, 612, 613, 614] (by decide +kernel) (by decide +kernel)
set_option maxRecDepth 20000 in
theorem gL_law_X5_lamp : GoodIn wsL_law (wsV RL 100 RX5 yX5_lamp wsX5_lamp) := goodIn_app (goodIn_of _ (by decide +kernel)) ggL_law_X5_lamp
set_option maxRecDepth 20000 in
theorem ggL_law_L_pass : GoodIn wsL_law wsL_pass := goodIn_ca (goodIn_r _ [274, 80, 275, 276, 277, 2, 278, 85, 86, 16, 30, 25, 31, 279, 280, 281, 15, 282, 39, 40, 283, 284, 285, 286, 37, 36, 94, 95, 96, 97, 201, 134, 135, 136, 239, 138, 139, 140, 287, 288, 289, 290, 291, 292, 293, 294, 238, 103, 104, 105, 295, 296, 297, 298, 299, 300, 24, 301, 52, 55, 56, 302, 303, 304, 305, 53, 54, 306, 307, 234, 235, 236, 237, 594, 595, 596, 597, 598, 599, 600, 615, 616, 617, 618, 622, 623, 624, 625, 626] (by decide +kernel) (by decide +kernel)) (goodIn_sub (fun _ h => List.mem_append_left _ (List.mem_append_left _ (List.mem_append_right _ h))) (by decide +kernel))
set_option maxRecDepth 20000 in
theorem gL_law_L_pass : GoodIn wsL_law (va_wsS RL 101 yL_pass wsL_pass) := goodIn_app (goodIn_of _ (by decide +kernel)) ggL_law_L_pass
set_option maxRecDepth 20000 in
theorem ggL_law_X5_pass : GoodIn wsL_law wsX5_pass := goodIn_r _ [311, 110, 312, 313, 112, 113, 5, 114, 115, 116, 117, 118, 314, 315, 316, 317, 66, 67, 70, 68, 249, 250, 251, 252, 153, 154, 155, 318, 319, 320, 321, 322, 323, 324, 325, 244, 326, 327, 328, 329, 111, 71, 245, 246, 247, 248, 601, 602, 603, 604, 605, 606, 607, 608, 609, 610, 611, 612, 613, 614] (by decide +kernel) (by decide +kernel)
set_option maxRecDepth 20000 in
theorem gL_law_X5_pass : GoodIn wsL_law (wsV RL 104 RX5 yX5_pass wsX5_pass) := goodIn_app (goodIn_of _ (by decide +kernel)) ggL_law_X5_pass
set_option maxRecDepth 20000 in
theorem ggL_law_L_told : GoodIn wsL_law wsL_told := goodIn_ca (goodIn_r _ [332, 126, 333, 334, 335, 2, 336, 131, 132, 16, 21, 133, 134, 135, 15, 136, 36, 37, 137, 138, 139, 140, 39, 337, 338, 339, 340, 291, 292, 293, 294, 201, 239, 341, 296, 297, 342, 343, 344, 20, 345, 346, 347, 348, 349, 45, 350, 95, 96, 97, 351, 352, 353, 354, 46, 47, 355, 356, 357, 358, 359, 360, 361, 362, 363, 364, 594, 595, 596, 597, 598, 599, 600, 615, 616, 617, 618, 619, 620, 621] (by decide +kernel) (by decide +kernel)) (goodIn_sub (fun _ h => List.mem_append_left _ (List.mem_append_right _ h)) (by decide +kernel))
set_option maxRecDepth 20000 in
theorem gL_law_L_told : GoodIn wsL_law (va_wsS RL 105 yL_told wsL_told) := goodIn_app (goodIn_of _ (by decide +kernel)) ggL_law_L_told
set_option maxRecDepth 20000 in
theorem ggL_law_X5_told : GoodIn wsL_law wsX5_told := goodIn_r _ [368, 110, 149, 150, 151, 5, 152, 66, 67, 112, 113, 114, 153, 154, 155, 369, 370, 371, 372, 68, 322, 323, 324, 325, 244, 318, 319, 320, 321, 373, 374, 375, 376, 377, 378, 379, 380, 74, 75, 115, 116, 117, 118, 601, 602, 603, 604, 605, 606, 607, 608, 609, 610, 611, 612, 613, 614] (by decide +kernel) (by decide +kernel)
set_option maxRecDepth 20000 in
theorem gL_law_X5_told : GoodIn wsL_law (wsV RL 107 RX5 yX5_told wsX5_told) := goodIn_app (goodIn_of _ (by decide +kernel)) ggL_law_X5_told
set_option maxRecDepth 20000 in
theorem ggL_law_L_about : GoodIn wsL_law wsL_about := goodIn_ca (goodIn_r _ [383, 126, 384, 385, 386, 2, 387, 131, 132, 25, 260, 261, 262, 24, 263, 52, 388, 389, 390, 391, 53, 392, 393, 394, 395, 396, 397, 398, 399, 54, 400, 401, 402, 403, 55, 404, 405, 406, 407, 56, 594, 595, 596, 597, 598, 599, 600, 622, 623, 624, 625, 626] (by decide +kernel) (by decide +kernel)) (goodIn_sub (fun _ h => List.mem_append_left _ (List.mem_append_right _ h)) (by decide +kernel))
set_option maxRecDepth 20000 in
theorem gL_law_L_about : GoodIn wsL_law (va_wsS RL 108 yL_about wsL_about) := goodIn_app (goodIn_of _ (by decide +kernel)) ggL_law_L_about
set_option maxRecDepth 20000 in
theorem ggL_law_X5_about : GoodIn wsL_law wsX5_about := goodIn_r _ [411, 110, 111, 112, 113, 5, 114, 412, 413, 414, 415, 71, 115, 116, 117, 118, 601, 602, 603, 604, 605, 606, 607, 608, 609, 610, 611, 612, 613, 614] (by decide +kernel) (by decide +kernel)
set_option maxRecDepth 20000 in
theorem gL_law_X5_about : GoodIn wsL_law (wsV RL 110 RX5 yX5_about wsX5_about) := goodIn_app (goodIn_of _ (by decide +kernel)) ggL_law_X5_about
set_option maxRecDepth 20000 in
theorem ggL_law_L_count : GoodIn wsL_law wsL_count := goodIn_ca (goodIn_r _ [418, 126, 419, 420, 421, 2, 422, 131, 132, 30, 16, 21, 25, 423, 424, 425, 15, 426, 36, 427, 428, 429, 430, 37, 234, 235, 236, 237, 238, 103, 104, 105, 239, 138, 139, 140, 39, 431, 432, 433, 20, 434, 346, 347, 348, 349, 45, 350, 95, 96, 97, 435, 436, 351, 352, 353, 354, 46, 47, 355, 356, 357, 358, 359, 134, 135, 136, 360, 437, 438, 439, 440, 441, 168, 165, 169, 260, 261, 262, 24, 263, 52, 442, 443, 444, 445, 55, 594, 595, 596, 597, 598, 599, 600, 615, 616, 617, 618, 619, 620, 621, 622, 623, 624, 625, 626] (by decide +kernel) (by decide +kernel)) (goodIn_sub (fun _ h => List.mem_append_left _ (List.mem_append_right _ h)) (by decide +kernel))
set_option maxRecDepth 20000 in
theorem gL_law_L_count : GoodIn wsL_law (va_wsS RL 111 yL_count wsL_count) := goodIn_app (goodIn_of _ (by decide +kernel)) ggL_law_L_count
set_option maxRecDepth 20000 in
theorem ggL_law_X5_count : GoodIn wsL_law wsX5_count := goodIn_r _ [449, 110, 112, 113, 5, 114, 450, 451, 452, 453, 312, 66, 67, 111, 245, 246, 247, 248, 68, 249, 250, 251, 252, 153, 154, 155, 454, 455, 456, 457, 458, 168, 165, 169, 74, 377, 378, 379, 380, 75, 244, 459, 460, 461, 462, 71, 115, 116, 117, 118, 601, 602, 603, 604, 605, 606, 607, 608, 609, 610, 611, 612, 613, 614] (by decide +kernel) (by decide +kernel)
set_option maxRecDepth 20000 in
theorem gL_law_X5_count : GoodIn wsL_law (wsV RL 113 RX5 yX5_count wsX5_count) := goodIn_app (goodIn_of _ (by decide +kernel)) ggL_law_X5_count
set_option maxRecDepth 20000 in
theorem ggL_law_L_way : GoodIn wsL_law wsL_way := goodIn_ca (goodIn_r _ [465, 126, 466, 467, 468, 2, 469, 131, 132, 16, 21, 133, 134, 135, 15, 136, 36, 37, 470, 471, 472, 20, 473, 45, 346, 347, 348, 349, 350, 95, 96, 97, 351, 352, 353, 354, 46, 47, 355, 356, 357, 358, 359, 360, 138, 139, 140, 39, 594, 595, 596, 597, 598, 599, 600, 615, 616, 617, 618, 619, 620, 621] (by decide +kernel) (by decide +kernel)) (goodIn_sub (fun _ h => List.mem_append_left _ (List.mem_append_right _ h)) (by decide +kernel))
set_option maxRecDepth 20000 in
theorem gL_law_L_way : GoodIn wsL_law (va_wsS RL 114 yL_way wsL_way) := goodIn_app (goodIn_of _ (by decide +kernel)) ggL_law_L_way
set_option maxRecDepth 20000 in
theorem ggL_law_X5_way : GoodIn wsL_law wsX5_way := goodIn_r _ [477, 110, 68, 74, 149, 150, 151, 5, 152, 66, 67, 112, 113, 114, 115, 116, 117, 118, 153, 154, 155, 377, 378, 379, 380, 75, 244, 601, 602, 603, 604, 605, 606, 607, 608, 609, 610, 611, 612, 613, 614] (by decide +kernel) (by decide +kernel)
set_option maxRecDepth 20000 in
theorem gL_law_X5_way : GoodIn wsL_law (wsV RL 116 RX5 yX5_way wsX5_way) := goodIn_app (goodIn_of _ (by decide +kernel)) ggL_law_X5_way
set_option maxRecDepth 20000 in
theorem ggL_law_L_period : GoodIn wsL_law wsL_period := goodIn_ca (goodIn_r _ [480, 126, 481, 482, 483, 2, 484, 131, 132, 17, 16, 29, 485, 486, 487, 15, 488, 36, 37, 39, 489, 490, 491, 492, 493, 494, 495, 28, 496, 61, 497, 498, 499, 500, 138, 139, 140, 279, 280, 281, 282, 40, 283, 284, 285, 286, 94, 95, 96, 97, 201, 134, 135, 136, 239, 287, 288, 289, 290, 291, 292, 293, 294, 238, 103, 104, 105, 295, 296, 297, 501, 502, 503, 504, 505, 506, 507, 508, 594, 595, 596, 597, 598, 599, 600, 615, 616, 617, 618, 627] (by decide +kernel) (by decide +kernel)) (goodIn_sub (fun _ h => List.mem_append_left _ (List.mem_append_right _ h)) (by decide +kernel))
set_option maxRecDepth 20000 in
theorem gL_law_L_period : GoodIn wsL_law (va_wsS RL 117 yL_period wsL_period) := goodIn_app (goodIn_of _ (by decide +kernel)) ggL_law_L_period
set_option maxRecDepth 20000 in
theorem ggL_law_X5_period : GoodIn wsL_law wsX5_period := goodIn_r _ [512, 110, 68, 73, 513, 490, 491, 492, 112, 113, 5, 114, 115, 116, 117, 118, 514, 515, 516, 517, 69, 71, 72, 518, 519, 520, 521, 314, 315, 316, 317, 66, 67, 70, 249, 250, 251, 252, 153, 154, 155, 318, 319, 320, 321, 322, 323, 324, 325, 244, 522, 523, 524, 525, 601, 602, 603, 604, 605, 606, 607, 608, 609, 610, 611, 612, 613, 614] (by decide +kernel) (by decide +kernel)
set_option maxRecDepth 20000 in
theorem gL_law_X5_period : GoodIn wsL_law (wsV RL 119 RX5 yX5_period wsX5_period) := goodIn_app (goodIn_of _ (by decide +kernel)) ggL_law_X5_period
set_option maxRecDepth 20000 in
theorem ggL_law_L_until : GoodIn wsL_law wsL_until := goodIn_ca (goodIn_r _ [528, 126, 529, 530, 531, 2, 532, 131, 132, 16, 17, 133, 134, 135, 15, 136, 36, 37, 485, 486, 487, 488, 39, 489, 490, 491, 492, 137, 138, 139, 140, 279, 280, 281, 282, 40, 283, 284, 285, 286, 94, 95, 96, 97, 201, 239, 287, 288, 289, 290, 291, 292, 293, 294, 238, 103, 104, 105, 295, 296, 297, 594, 595, 596, 597, 598, 599, 600, 615, 616, 617, 618] (by decide +kernel) (by decide +kernel)) (goodIn_sub (fun _ h => List.mem_append_left _ (List.mem_append_right _ h)) (by decide +kernel))
set_option maxRecDepth 20000 in
theorem gL_law_L_until : GoodIn wsL_law (va_wsS RL 120 yL_until wsL_until) := goodIn_app (goodIn_of _ (by decide +kernel)) ggL_law_L_until
set_option maxRecDepth 20000 in
theorem ggL_law_X5_until : GoodIn wsL_law wsX5_until := goodIn_r _ [536, 110, 68, 149, 150, 151, 5, 152, 66, 67, 112, 113, 114, 115, 116, 117, 118, 514, 515, 516, 517, 69, 513, 490, 491, 492, 71, 72, 153, 154, 155, 314, 315, 316, 317, 70, 249, 250, 251, 252, 318, 319, 320, 321, 322, 323, 324, 325, 244, 522, 523, 524, 525, 601, 602, 603, 604, 605, 606, 607, 608, 609, 610, 611, 612, 613, 614] (by decide +kernel) (by decide +kernel)
set_option maxRecDepth 20000 in
theorem gL_law_X5_until : GoodIn wsL_law (wsV RL 122 RX5 yX5_until wsX5_until) := goodIn_app (goodIn_of _ (by decide +kernel)) ggL_law_X5_until
set_option maxRecDepth 20000 in
theorem ggL_law_L_foresee : GoodIn wsL_law wsL_foresee := goodIn_ca (goodIn_ca (goodIn_r _ [539, 80, 126, 540, 541, 542, 2, 543, 85, 86, 131, 132, 25, 17, 16, 442, 443, 444, 24, 445, 52, 55, 485, 486, 487, 15, 488, 36, 37, 39, 489, 490, 491, 492, 279, 280, 281, 282, 40, 283, 284, 285, 286, 94, 95, 96, 97, 201, 134, 135, 136, 239, 138, 139, 140, 287, 288, 289, 290, 291, 292, 293, 294, 238, 103, 104, 105, 295, 296, 297, 544, 545, 546, 547, 302, 303, 304, 305, 53, 54, 306, 307, 234, 235, 236, 237, 594, 595, 596, 597, 598, 599, 600, 622, 623, 624, 625, 626, 615, 616, 617, 618] (by decide +kernel) (by decide +kernel)) (goodIn_sub (fun _ h => List.mem_append_left _ (List.mem_append_left _ (List.mem_append_right _ h))) (by decide +kernel))) (goodIn_sub (fun _ h => List.mem_append_left _ (List.mem_append_right _ h)) (by decide +kernel))
set_option maxRecDepth 20000 in
theorem gL_law_L_foresee : GoodIn wsL_law (va_wsS RL 123 yL_foresee wsL_foresee) := goodIn_app (goodIn_of _ (by decide +kernel)) ggL_law_L_foresee
set_option maxRecDepth 20000 in
theorem ggL_law_X5_foresee : GoodIn wsL_law wsX5_foresee := goodIn_r _ [551, 110, 112, 113, 5, 114, 115, 116, 117, 118, 514, 515, 516, 517, 68, 69, 513, 490, 491, 492, 71, 72, 314, 315, 316, 317, 66, 67, 70, 249, 250, 251, 252, 153, 154, 155, 318, 319, 320, 321, 322, 323, 324, 325, 244, 326, 327, 328, 329, 111, 450, 451, 452, 453, 312, 245, 246, 247, 248, 454, 455, 456, 457, 458, 168, 165, 169, 74, 377, 378, 379, 380, 75, 459, 460, 461, 462, 522, 523, 524, 525, 601, 602, 603, 604, 605, 606, 607, 608, 609, 610, 611, 612, 613, 614] (by decide +kernel) (by decide +kernel)
set_option maxRecDepth 20000 in
theorem gL_law_X5_foresee : GoodIn wsL_law (wsV RL 125 RX5 yX5_foresee wsX5_foresee) := goodIn_app (goodIn_of _ (by decide +kernel)) ggL_law_X5_foresee
set_option maxRecDepth 20000 in
theorem ggL_law_L_advise : GoodIn wsL_law wsL_advise := goodIn_ca (goodIn_r _ [554, 80, 555, 556, 557, 2, 558, 85, 86, 17, 16, 485, 486, 487, 15, 488, 36, 37, 39, 489, 490, 491, 492, 559, 560, 561, 562, 279, 280, 281, 282, 40, 283, 284, 285, 286, 94, 95, 96, 97, 201, 134, 135, 136, 239, 138, 139, 140, 287, 288, 289, 290, 291, 292, 293, 294, 238, 103, 104, 105, 295, 296, 297, 234, 235, 236, 237, 102, 137, 141, 142, 143, 144, 594, 595, 596, 597, 598, 599, 600, 615, 616, 617, 618] (by decide +kernel) (by decide +kernel)) (goodIn_sub (fun _ h => List.mem_append_left _ (List.mem_append_left _ (List.mem_append_right _ h))) (by decide +kernel))
set_option maxRecDepth 20000 in
theorem gL_law_L_advise : GoodIn wsL_law (va_wsS RL 126 yL_advise wsL_advise) := goodIn_app (goodIn_of _ (by decide +kernel)) ggL_law_L_advise
set_option maxRecDepth 20000 in
theorem ggL_law_X5_advise : GoodIn wsL_law wsX5_advise := goodIn_r _ [566, 110, 66, 67, 68, 112, 113, 5, 114, 115, 116, 117, 118, 514, 515, 516, 517, 69, 513, 490, 491, 492, 71, 72, 567, 568, 569, 570, 314, 315, 316, 317, 70, 249, 250, 251, 252, 153, 154, 155, 318, 319, 320, 321, 322, 323, 324, 325, 244, 245, 246, 247, 248, 522, 523, 524, 525, 601, 602, 603, 604, 605, 606, 607, 608, 609, 610, 611, 612, 613, 614] (by decide +kernel) (by decide +kernel)
set_option maxRecDepth 20000 in
theorem gL_law_X5_advise : GoodIn wsL_law (wsV RL 128 RX5 yX5_advise wsX5_advise) := goodIn_app (goodIn_of _ (by decide +kernel)) ggL_law_X5_advise
set_option maxRecDepth 20000 in
theorem ggL_law_X4_mean : GoodIn wsL_law wsX4_mean := goodIn_r _ [574, 30, 31, 594, 595, 596, 597, 598, 599, 600] (by decide +kernel) (by decide +kernel)
set_option maxRecDepth 20000 in
theorem gL_law_X4_mean : GoodIn wsL_law (wsV RL 129 RX4 yX4_mean wsX4_mean) := goodIn_app (goodIn_of _ (by decide +kernel)) ggL_law_X4_mean
set_option maxRecDepth 20000 in
theorem ggL_law_X5_mean : GoodIn wsL_law wsX5_mean := goodIn_r _ [578, 110, 312, 313, 601, 602, 603, 604, 605, 606, 607, 608, 609, 610, 611, 612, 613, 614] (by decide +kernel) (by decide +kernel)
set_option maxRecDepth 20000 in
theorem gL_law_X5_mean : GoodIn wsL_law (wsV RL 133 RX5 yX5_mean wsX5_mean) := goodIn_app (goodIn_of _ (by decide +kernel)) ggL_law_X5_mean
set_option maxRecDepth 20000 in
theorem ggL_law_X4_digest : GoodIn wsL_law wsX4_digest := goodIn_ca (goodIn_r _ [582, 583, 584, 16, 25, 31, 585, 420, 421, 2, 422, 131, 132, 30, 21, 423, 424, 425, 15, 426, 36, 427, 428, 429, 430, 37, 234, 235, 236, 237, 238, 103, 104, 105, 239, 138, 139, 140, 39, 431, 432, 433, 20, 434, 346, 347, 348, 349, 45, 350, 95, 96, 97, 435, 436, 351, 352, 353, 354, 46, 47, 355, 356, 357, 358, 359, 134, 135, 136, 360, 437, 438, 439, 440, 441, 168, 165, 169, 260, 261, 262, 24, 263, 52, 442, 443, 444, 445, 55, 586, 334, 335, 336, 133, 137, 337, 338, 339, 340, 291, 292, 293, 294, 201, 341, 296, 297, 342, 343, 344, 345, 361, 362, 363, 364, 587, 385, 386, 387, 388, 389, 390, 391, 53, 392, 393, 394, 395, 396, 397, 398, 399, 54, 400, 401, 402, 403, 404, 405, 406, 407, 56, 594, 595, 596, 597, 598, 599, 600, 615, 616, 617, 618, 619, 620, 621, 622, 623, 624, 625, 626] (by decide +kernel) (by decide +kernel)) (goodIn_sub (fun _ h => List.mem_append_left _ (List.mem_append_right _ h)) (by decide +kernel))
set_option maxRecDepth 20000 in
theorem gL_law_X4_digest : GoodIn wsL_law (wsV RL 134 RX4 yX4_digest wsX4_digest) := goodIn_app (goodIn_of _ (by decide +kernel)) ggL_law_X4_digest
set_option maxRecDepth 20000 in
theorem ggL_law_X5_digest : GoodIn wsL_law wsX5_digest := goodIn_r _ [591, 110, 592, 593, 66, 67, 111, 313, 450, 451, 452, 5, 453, 312, 245, 246, 247, 248, 68, 249, 250, 251, 252, 153, 154, 155, 454, 455, 456, 457, 458, 168, 165, 169, 74, 377, 378, 379, 380, 75, 244, 459, 460, 461, 462, 71, 369, 370, 371, 372, 322, 323, 324, 325, 318, 319, 320, 321, 373, 374, 375, 376, 412, 413, 414, 415, 601, 602, 603, 604, 605, 606, 607, 608, 609, 610, 611, 612, 613, 614] (by decide +kernel) (by decide +kernel)
set_option maxRecDepth 20000 in
theorem gL_law_X5_digest : GoodIn wsL_law (wsV RL 138 RX5 yX5_digest wsX5_digest) := goodIn_app (goodIn_of _ (by decide +kernel)) ggL_law_X5_digest
theorem dL_law_0 : decode cL_law 0 = .ok (.new 8, 3) := by decide +kernel
theorem dL_law_3 : decode cL_law 3 = .ok (.dup, 1) := by decide +kernel
theorem dL_law_4 : decode cL_law 4 = .ok (.invokespecial 67, 3) := by decide +kernel
theorem dL_law_7 : decode cL_law 7 = .ok (.astore_n 1, 1) := by decide +kernel
theorem dL_law_8 : decode cL_law 8 = .ok (.new 68, 3) := by decide +kernel
theorem dL_law_11 : decode cL_law 11 = .ok (.dup, 1) := by decide +kernel
theorem dL_law_12 : decode cL_law 12 = .ok (.invokespecial 70, 3) := by decide +kernel
theorem dL_law_15 : decode cL_law 15 = .ok (.astore_n 2, 1) := by decide +kernel
theorem dL_law_16 : decode cL_law 16 = .ok (.iconst 1, 1) := by decide +kernel
theorem dL_law_17 : decode cL_law 17 = .ok (.newarray .long, 2) := by decide +kernel
theorem dL_law_19 : decode cL_law 19 = .ok (.astore_n 3, 1) := by decide +kernel
theorem dL_law_20 : decode cL_law 20 = .ok (.iconst 0, 1) := by decide +kernel
theorem dL_law_21 : decode cL_law 21 = .ok (.istore 4, 2) := by decide +kernel
theorem dL_law_23 : decode cL_law 23 = .ok (.iload 4, 2) := by decide +kernel
theorem dL_law_25 : decode cL_law 25 = .ok (.aload_n 0, 1) := by decide +kernel
theorem dL_law_26 : decode cL_law 26 = .ok (.arraylength, 1) := by decide +kernel
theorem dL_law_27 : decode cL_law 27 = .ok (.iconst 5, 1) := by decide +kernel
theorem dL_law_28 : decode cL_law 28 = .ok (.isub, 1) := by decide +kernel
theorem dL_law_29 : decode cL_law 29 = .ok (.if_icmp .gt 1328, 3) := by decide +kernel
theorem dL_law_32 : decode cL_law 32 = .ok (.aload_n 0, 1) := by decide +kernel
theorem dL_law_33 : decode cL_law 33 = .ok (.iload 4, 2) := by decide +kernel
theorem dL_law_35 : decode cL_law 35 = .ok (.iaload, 1) := by decide +kernel
theorem dL_law_36 : decode cL_law 36 = .ok (.bipush 31, 2) := by decide +kernel
theorem dL_law_38 : decode cL_law 38 = .ok (.iand, 1) := by decide +kernel
theorem dL_law_39 : decode cL_law 39 = .ok (.tableswitch 1312 0 17 #[85, 153, 233, 325, 417, 509, 589, 657, 713, 793, 861, 917, 1009, 1065, 1133, 1201, 1257, 1298], 85) := by decide +kernel
theorem dL_law_124 : decode cL_law 124 = .ok (.aload_n 1, 1) := by decide +kernel
theorem dL_law_125 : decode cL_law 125 = .ok (.aload_n 0, 1) := by decide +kernel
theorem dL_law_126 : decode cL_law 126 = .ok (.iload 4, 2) := by decide +kernel
theorem dL_law_128 : decode cL_law 128 = .ok (.iconst 1, 1) := by decide +kernel
theorem dL_law_129 : decode cL_law 129 = .ok (.iadd, 1) := by decide +kernel
theorem dL_law_130 : decode cL_law 130 = .ok (.iaload, 1) := by decide +kernel
theorem dL_law_131 : decode cL_law 131 = .ok (.aload_n 0, 1) := by decide +kernel
theorem dL_law_132 : decode cL_law 132 = .ok (.iload 4, 2) := by decide +kernel
theorem dL_law_134 : decode cL_law 134 = .ok (.iconst 2, 1) := by decide +kernel
theorem dL_law_135 : decode cL_law 135 = .ok (.iadd, 1) := by decide +kernel
theorem dL_law_136 : decode cL_law 136 = .ok (.iaload, 1) := by decide +kernel
theorem dL_law_137 : decode cL_law 137 = .ok (.aload_n 3, 1) := by decide +kernel
theorem dL_law_138 : decode cL_law 138 = .ok (.invokestatic 71, 3) := by decide +kernel
theorem dL_law_141 : decode cL_law 141 = .ok (.istore 5, 2) := by decide +kernel
theorem dL_law_143 : decode cL_law 143 = .ok (.aload_n 2, 1) := by decide +kernel
theorem dL_law_144 : decode cL_law 144 = .ok (.aload_n 0, 1) := by decide +kernel
theorem dL_law_145 : decode cL_law 145 = .ok (.iload 4, 2) := by decide +kernel
theorem dL_law_147 : decode cL_law 147 = .ok (.iconst 1, 1) := by decide +kernel
theorem dL_law_148 : decode cL_law 148 = .ok (.iadd, 1) := by decide +kernel
theorem dL_law_149 : decode cL_law 149 = .ok (.iaload, 1) := by decide +kernel
theorem dL_law_150 : decode cL_law 150 = .ok (.aload_n 0, 1) := by decide +kernel
theorem dL_law_151 : decode cL_law 151 = .ok (.iload 4, 2) := by decide +kernel
theorem dL_law_153 : decode cL_law 153 = .ok (.iconst 2, 1) := by decide +kernel
theorem dL_law_154 : decode cL_law 154 = .ok (.iadd, 1) := by decide +kernel
theorem dL_law_155 : decode cL_law 155 = .ok (.iaload, 1) := by decide +kernel
theorem dL_law_156 : decode cL_law 156 = .ok (.invokevirtual 76, 3) := by decide +kernel
theorem dL_law_159 : decode cL_law 159 = .ok (.istore 6, 2) := by decide +kernel
theorem dL_law_161 : decode cL_law 161 = .ok (.aload_n 2, 1) := by decide +kernel
theorem dL_law_162 : decode cL_law 162 = .ok (.invokevirtual 77, 3) := by decide +kernel
theorem dL_law_165 : decode cL_law 165 = .ok (.iload 5, 2) := by decide +kernel
theorem dL_law_167 : decode cL_law 167 = .ok (.if_icmp .eq 5, 3) := by decide +kernel
theorem dL_law_170 : decode cL_law 170 = .ok (.iconst 0, 1) := by decide +kernel
theorem dL_law_171 : decode cL_law 171 = .ok (.ireturn, 1) := by decide +kernel
theorem dL_law_172 : decode cL_law 172 = .ok (.iload 5, 2) := by decide +kernel
theorem dL_law_174 : decode cL_law 174 = .ok (.ifCond .ne 15, 3) := by decide +kernel
theorem dL_law_177 : decode cL_law 177 = .ok (.aload_n 3, 1) := by decide +kernel
theorem dL_law_178 : decode cL_law 178 = .ok (.iconst 0, 1) := by decide +kernel
theorem dL_law_179 : decode cL_law 179 = .ok (.laload, 1) := by decide +kernel
theorem dL_law_180 : decode cL_law 180 = .ok (.iload 6, 2) := by decide +kernel
theorem dL_law_182 : decode cL_law 182 = .ok (.i2l, 1) := by decide +kernel
theorem dL_law_183 : decode cL_law 183 = .ok (.lcmp, 1) := by decide +kernel
theorem dL_law_184 : decode cL_law 184 = .ok (.ifCond .eq 5, 3) := by decide +kernel
theorem dL_law_187 : decode cL_law 187 = .ok (.iconst 0, 1) := by decide +kernel
theorem dL_law_188 : decode cL_law 188 = .ok (.ireturn, 1) := by decide +kernel
theorem dL_law_189 : decode cL_law 189 = .ok (.goto 1162, 3) := by decide +kernel
theorem dL_law_192 : decode cL_law 192 = .ok (.aload_n 1, 1) := by decide +kernel
theorem dL_law_193 : decode cL_law 193 = .ok (.aload_n 0, 1) := by decide +kernel
theorem dL_law_194 : decode cL_law 194 = .ok (.iload 4, 2) := by decide +kernel
theorem dL_law_196 : decode cL_law 196 = .ok (.iconst 1, 1) := by decide +kernel
theorem dL_law_197 : decode cL_law 197 = .ok (.iadd, 1) := by decide +kernel
theorem dL_law_198 : decode cL_law 198 = .ok (.iaload, 1) := by decide +kernel
theorem dL_law_199 : decode cL_law 199 = .ok (.aload_n 0, 1) := by decide +kernel
theorem dL_law_200 : decode cL_law 200 = .ok (.iload 4, 2) := by decide +kernel
theorem dL_law_202 : decode cL_law 202 = .ok (.iconst 2, 1) := by decide +kernel
theorem dL_law_203 : decode cL_law 203 = .ok (.iadd, 1) := by decide +kernel
theorem dL_law_204 : decode cL_law 204 = .ok (.iaload, 1) := by decide +kernel
theorem dL_law_205 : decode cL_law 205 = .ok (.aload_n 0, 1) := by decide +kernel
theorem dL_law_206 : decode cL_law 206 = .ok (.iload 4, 2) := by decide +kernel
theorem dL_law_208 : decode cL_law 208 = .ok (.iconst 3, 1) := by decide +kernel
theorem dL_law_209 : decode cL_law 209 = .ok (.iadd, 1) := by decide +kernel
theorem dL_law_210 : decode cL_law 210 = .ok (.iaload, 1) := by decide +kernel
theorem dL_law_211 : decode cL_law 211 = .ok (.aload_n 3, 1) := by decide +kernel
theorem dL_law_212 : decode cL_law 212 = .ok (.invokestatic 81, 3) := by decide +kernel
theorem dL_law_215 : decode cL_law 215 = .ok (.istore 5, 2) := by decide +kernel
theorem dL_law_217 : decode cL_law 217 = .ok (.aload_n 2, 1) := by decide +kernel
theorem dL_law_218 : decode cL_law 218 = .ok (.aload_n 0, 1) := by decide +kernel
theorem dL_law_219 : decode cL_law 219 = .ok (.iload 4, 2) := by decide +kernel
theorem dL_law_221 : decode cL_law 221 = .ok (.iconst 1, 1) := by decide +kernel
theorem dL_law_222 : decode cL_law 222 = .ok (.iadd, 1) := by decide +kernel
theorem dL_law_223 : decode cL_law 223 = .ok (.iaload, 1) := by decide +kernel
theorem dL_law_224 : decode cL_law 224 = .ok (.aload_n 0, 1) := by decide +kernel
theorem dL_law_225 : decode cL_law 225 = .ok (.iload 4, 2) := by decide +kernel
theorem dL_law_227 : decode cL_law 227 = .ok (.iconst 2, 1) := by decide +kernel
theorem dL_law_228 : decode cL_law 228 = .ok (.iadd, 1) := by decide +kernel
theorem dL_law_229 : decode cL_law 229 = .ok (.iaload, 1) := by decide +kernel
theorem dL_law_230 : decode cL_law 230 = .ok (.aload_n 0, 1) := by decide +kernel
theorem dL_law_231 : decode cL_law 231 = .ok (.iload 4, 2) := by decide +kernel
theorem dL_law_233 : decode cL_law 233 = .ok (.iconst 3, 1) := by decide +kernel
theorem dL_law_234 : decode cL_law 234 = .ok (.iadd, 1) := by decide +kernel
theorem dL_law_235 : decode cL_law 235 = .ok (.iaload, 1) := by decide +kernel
theorem dL_law_236 : decode cL_law 236 = .ok (.invokevirtual 84, 3) := by decide +kernel
theorem dL_law_239 : decode cL_law 239 = .ok (.istore 6, 2) := by decide +kernel
theorem dL_law_241 : decode cL_law 241 = .ok (.aload_n 2, 1) := by decide +kernel
theorem dL_law_242 : decode cL_law 242 = .ok (.invokevirtual 77, 3) := by decide +kernel
theorem dL_law_245 : decode cL_law 245 = .ok (.iload 5, 2) := by decide +kernel
theorem dL_law_247 : decode cL_law 247 = .ok (.if_icmp .eq 5, 3) := by decide +kernel
theorem dL_law_250 : decode cL_law 250 = .ok (.iconst 0, 1) := by decide +kernel
theorem dL_law_251 : decode cL_law 251 = .ok (.ireturn, 1) := by decide +kernel
theorem dL_law_252 : decode cL_law 252 = .ok (.iload 5, 2) := by decide +kernel
theorem dL_law_254 : decode cL_law 254 = .ok (.ifCond .ne 15, 3) := by decide +kernel
theorem dL_law_257 : decode cL_law 257 = .ok (.aload_n 3, 1) := by decide +kernel
theorem dL_law_258 : decode cL_law 258 = .ok (.iconst 0, 1) := by decide +kernel
theorem dL_law_259 : decode cL_law 259 = .ok (.laload, 1) := by decide +kernel
theorem dL_law_260 : decode cL_law 260 = .ok (.iload 6, 2) := by decide +kernel
theorem dL_law_262 : decode cL_law 262 = .ok (.i2l, 1) := by decide +kernel
theorem dL_law_263 : decode cL_law 263 = .ok (.lcmp, 1) := by decide +kernel
theorem dL_law_264 : decode cL_law 264 = .ok (.ifCond .eq 5, 3) := by decide +kernel
theorem dL_law_267 : decode cL_law 267 = .ok (.iconst 0, 1) := by decide +kernel
theorem dL_law_268 : decode cL_law 268 = .ok (.ireturn, 1) := by decide +kernel
theorem dL_law_269 : decode cL_law 269 = .ok (.goto 1082, 3) := by decide +kernel
theorem dL_law_272 : decode cL_law 272 = .ok (.aload_n 1, 1) := by decide +kernel
theorem dL_law_273 : decode cL_law 273 = .ok (.aload_n 0, 1) := by decide +kernel
theorem dL_law_274 : decode cL_law 274 = .ok (.iload 4, 2) := by decide +kernel
theorem dL_law_276 : decode cL_law 276 = .ok (.iconst 1, 1) := by decide +kernel
theorem dL_law_277 : decode cL_law 277 = .ok (.iadd, 1) := by decide +kernel
theorem dL_law_278 : decode cL_law 278 = .ok (.iaload, 1) := by decide +kernel
theorem dL_law_279 : decode cL_law 279 = .ok (.aload_n 0, 1) := by decide +kernel
theorem dL_law_280 : decode cL_law 280 = .ok (.iload 4, 2) := by decide +kernel
theorem dL_law_282 : decode cL_law 282 = .ok (.iconst 2, 1) := by decide +kernel
theorem dL_law_283 : decode cL_law 283 = .ok (.iadd, 1) := by decide +kernel
theorem dL_law_284 : decode cL_law 284 = .ok (.iaload, 1) := by decide +kernel
theorem dL_law_285 : decode cL_law 285 = .ok (.aload_n 0, 1) := by decide +kernel
theorem dL_law_286 : decode cL_law 286 = .ok (.iload 4, 2) := by decide +kernel
theorem dL_law_288 : decode cL_law 288 = .ok (.iconst 3, 1) := by decide +kernel
theorem dL_law_289 : decode cL_law 289 = .ok (.iadd, 1) := by decide +kernel
theorem dL_law_290 : decode cL_law 290 = .ok (.iaload, 1) := by decide +kernel
theorem dL_law_291 : decode cL_law 291 = .ok (.aload_n 0, 1) := by decide +kernel
theorem dL_law_292 : decode cL_law 292 = .ok (.iload 4, 2) := by decide +kernel
theorem dL_law_294 : decode cL_law 294 = .ok (.iconst 4, 1) := by decide +kernel
theorem dL_law_295 : decode cL_law 295 = .ok (.iadd, 1) := by decide +kernel
theorem dL_law_296 : decode cL_law 296 = .ok (.iaload, 1) := by decide +kernel
theorem dL_law_297 : decode cL_law 297 = .ok (.aload_n 3, 1) := by decide +kernel
theorem dL_law_298 : decode cL_law 298 = .ok (.invokestatic 85, 3) := by decide +kernel
theorem dL_law_301 : decode cL_law 301 = .ok (.istore 5, 2) := by decide +kernel
theorem dL_law_303 : decode cL_law 303 = .ok (.aload_n 2, 1) := by decide +kernel
theorem dL_law_304 : decode cL_law 304 = .ok (.aload_n 0, 1) := by decide +kernel
theorem dL_law_305 : decode cL_law 305 = .ok (.iload 4, 2) := by decide +kernel
theorem dL_law_307 : decode cL_law 307 = .ok (.iconst 1, 1) := by decide +kernel
theorem dL_law_308 : decode cL_law 308 = .ok (.iadd, 1) := by decide +kernel
theorem dL_law_309 : decode cL_law 309 = .ok (.iaload, 1) := by decide +kernel
theorem dL_law_310 : decode cL_law 310 = .ok (.aload_n 0, 1) := by decide +kernel
theorem dL_law_311 : decode cL_law 311 = .ok (.iload 4, 2) := by decide +kernel
theorem dL_law_313 : decode cL_law 313 = .ok (.iconst 2, 1) := by decide +kernel
theorem dL_law_314 : decode cL_law 314 = .ok (.iadd, 1) := by decide +kernel
theorem dL_law_315 : decode cL_law 315 = .ok (.iaload, 1) := by decide +kernel
theorem dL_law_316 : decode cL_law 316 = .ok (.aload_n 0, 1) := by decide +kernel
theorem dL_law_317 : decode cL_law 317 = .ok (.iload 4, 2) := by decide +kernel
theorem dL_law_319 : decode cL_law 319 = .ok (.iconst 3, 1) := by decide +kernel
theorem dL_law_320 : decode cL_law 320 = .ok (.iadd, 1) := by decide +kernel
theorem dL_law_321 : decode cL_law 321 = .ok (.iaload, 1) := by decide +kernel
theorem dL_law_322 : decode cL_law 322 = .ok (.aload_n 0, 1) := by decide +kernel
theorem dL_law_323 : decode cL_law 323 = .ok (.iload 4, 2) := by decide +kernel
theorem dL_law_325 : decode cL_law 325 = .ok (.iconst 4, 1) := by decide +kernel
theorem dL_law_326 : decode cL_law 326 = .ok (.iadd, 1) := by decide +kernel
theorem dL_law_327 : decode cL_law 327 = .ok (.iaload, 1) := by decide +kernel
theorem dL_law_328 : decode cL_law 328 = .ok (.invokevirtual 88, 3) := by decide +kernel
theorem dL_law_331 : decode cL_law 331 = .ok (.istore 6, 2) := by decide +kernel
theorem dL_law_333 : decode cL_law 333 = .ok (.aload_n 2, 1) := by decide +kernel
theorem dL_law_334 : decode cL_law 334 = .ok (.invokevirtual 77, 3) := by decide +kernel
theorem dL_law_337 : decode cL_law 337 = .ok (.iload 5, 2) := by decide +kernel
theorem dL_law_339 : decode cL_law 339 = .ok (.if_icmp .eq 5, 3) := by decide +kernel
theorem dL_law_342 : decode cL_law 342 = .ok (.iconst 0, 1) := by decide +kernel
theorem dL_law_343 : decode cL_law 343 = .ok (.ireturn, 1) := by decide +kernel
theorem dL_law_344 : decode cL_law 344 = .ok (.iload 5, 2) := by decide +kernel
theorem dL_law_346 : decode cL_law 346 = .ok (.ifCond .ne 15, 3) := by decide +kernel
theorem dL_law_349 : decode cL_law 349 = .ok (.aload_n 3, 1) := by decide +kernel
theorem dL_law_350 : decode cL_law 350 = .ok (.iconst 0, 1) := by decide +kernel
theorem dL_law_351 : decode cL_law 351 = .ok (.laload, 1) := by decide +kernel
theorem dL_law_352 : decode cL_law 352 = .ok (.iload 6, 2) := by decide +kernel
theorem dL_law_354 : decode cL_law 354 = .ok (.i2l, 1) := by decide +kernel
theorem dL_law_355 : decode cL_law 355 = .ok (.lcmp, 1) := by decide +kernel
theorem dL_law_356 : decode cL_law 356 = .ok (.ifCond .eq 5, 3) := by decide +kernel
theorem dL_law_359 : decode cL_law 359 = .ok (.iconst 0, 1) := by decide +kernel
theorem dL_law_360 : decode cL_law 360 = .ok (.ireturn, 1) := by decide +kernel
theorem dL_law_361 : decode cL_law 361 = .ok (.goto 990, 3) := by decide +kernel
theorem dL_law_364 : decode cL_law 364 = .ok (.aload_n 1, 1) := by decide +kernel
theorem dL_law_365 : decode cL_law 365 = .ok (.aload_n 0, 1) := by decide +kernel
theorem dL_law_366 : decode cL_law 366 = .ok (.iload 4, 2) := by decide +kernel
theorem dL_law_368 : decode cL_law 368 = .ok (.iconst 1, 1) := by decide +kernel
theorem dL_law_369 : decode cL_law 369 = .ok (.iadd, 1) := by decide +kernel
theorem dL_law_370 : decode cL_law 370 = .ok (.iaload, 1) := by decide +kernel
theorem dL_law_371 : decode cL_law 371 = .ok (.aload_n 0, 1) := by decide +kernel
theorem dL_law_372 : decode cL_law 372 = .ok (.iload 4, 2) := by decide +kernel
theorem dL_law_374 : decode cL_law 374 = .ok (.iconst 2, 1) := by decide +kernel
theorem dL_law_375 : decode cL_law 375 = .ok (.iadd, 1) := by decide +kernel
theorem dL_law_376 : decode cL_law 376 = .ok (.iaload, 1) := by decide +kernel
theorem dL_law_377 : decode cL_law 377 = .ok (.aload_n 0, 1) := by decide +kernel
theorem dL_law_378 : decode cL_law 378 = .ok (.iload 4, 2) := by decide +kernel
theorem dL_law_380 : decode cL_law 380 = .ok (.iconst 3, 1) := by decide +kernel
theorem dL_law_381 : decode cL_law 381 = .ok (.iadd, 1) := by decide +kernel
theorem dL_law_382 : decode cL_law 382 = .ok (.iaload, 1) := by decide +kernel
theorem dL_law_383 : decode cL_law 383 = .ok (.aload_n 0, 1) := by decide +kernel
theorem dL_law_384 : decode cL_law 384 = .ok (.iload 4, 2) := by decide +kernel
theorem dL_law_386 : decode cL_law 386 = .ok (.iconst 4, 1) := by decide +kernel
theorem dL_law_387 : decode cL_law 387 = .ok (.iadd, 1) := by decide +kernel
theorem dL_law_388 : decode cL_law 388 = .ok (.iaload, 1) := by decide +kernel
theorem dL_law_389 : decode cL_law 389 = .ok (.aload_n 3, 1) := by decide +kernel
theorem dL_law_390 : decode cL_law 390 = .ok (.invokestatic 89, 3) := by decide +kernel
theorem dL_law_393 : decode cL_law 393 = .ok (.istore 5, 2) := by decide +kernel
theorem dL_law_395 : decode cL_law 395 = .ok (.aload_n 2, 1) := by decide +kernel
theorem dL_law_396 : decode cL_law 396 = .ok (.aload_n 0, 1) := by decide +kernel
theorem dL_law_397 : decode cL_law 397 = .ok (.iload 4, 2) := by decide +kernel
theorem dL_law_399 : decode cL_law 399 = .ok (.iconst 1, 1) := by decide +kernel
theorem dL_law_400 : decode cL_law 400 = .ok (.iadd, 1) := by decide +kernel
theorem dL_law_401 : decode cL_law 401 = .ok (.iaload, 1) := by decide +kernel
theorem dL_law_402 : decode cL_law 402 = .ok (.aload_n 0, 1) := by decide +kernel
theorem dL_law_403 : decode cL_law 403 = .ok (.iload 4, 2) := by decide +kernel
theorem dL_law_405 : decode cL_law 405 = .ok (.iconst 2, 1) := by decide +kernel
theorem dL_law_406 : decode cL_law 406 = .ok (.iadd, 1) := by decide +kernel
theorem dL_law_407 : decode cL_law 407 = .ok (.iaload, 1) := by decide +kernel
theorem dL_law_408 : decode cL_law 408 = .ok (.aload_n 0, 1) := by decide +kernel
theorem dL_law_409 : decode cL_law 409 = .ok (.iload 4, 2) := by decide +kernel
theorem dL_law_411 : decode cL_law 411 = .ok (.iconst 3, 1) := by decide +kernel
theorem dL_law_412 : decode cL_law 412 = .ok (.iadd, 1) := by decide +kernel
theorem dL_law_413 : decode cL_law 413 = .ok (.iaload, 1) := by decide +kernel
theorem dL_law_414 : decode cL_law 414 = .ok (.aload_n 0, 1) := by decide +kernel
theorem dL_law_415 : decode cL_law 415 = .ok (.iload 4, 2) := by decide +kernel
theorem dL_law_417 : decode cL_law 417 = .ok (.iconst 4, 1) := by decide +kernel
theorem dL_law_418 : decode cL_law 418 = .ok (.iadd, 1) := by decide +kernel
theorem dL_law_419 : decode cL_law 419 = .ok (.iaload, 1) := by decide +kernel
theorem dL_law_420 : decode cL_law 420 = .ok (.invokevirtual 91, 3) := by decide +kernel
theorem dL_law_423 : decode cL_law 423 = .ok (.istore 6, 2) := by decide +kernel
theorem dL_law_425 : decode cL_law 425 = .ok (.aload_n 2, 1) := by decide +kernel
theorem dL_law_426 : decode cL_law 426 = .ok (.invokevirtual 77, 3) := by decide +kernel
theorem dL_law_429 : decode cL_law 429 = .ok (.iload 5, 2) := by decide +kernel
theorem dL_law_431 : decode cL_law 431 = .ok (.if_icmp .eq 5, 3) := by decide +kernel
theorem dL_law_434 : decode cL_law 434 = .ok (.iconst 0, 1) := by decide +kernel
theorem dL_law_435 : decode cL_law 435 = .ok (.ireturn, 1) := by decide +kernel
theorem dL_law_436 : decode cL_law 436 = .ok (.iload 5, 2) := by decide +kernel
theorem dL_law_438 : decode cL_law 438 = .ok (.ifCond .ne 15, 3) := by decide +kernel
theorem dL_law_441 : decode cL_law 441 = .ok (.aload_n 3, 1) := by decide +kernel
theorem dL_law_442 : decode cL_law 442 = .ok (.iconst 0, 1) := by decide +kernel
theorem dL_law_443 : decode cL_law 443 = .ok (.laload, 1) := by decide +kernel
theorem dL_law_444 : decode cL_law 444 = .ok (.iload 6, 2) := by decide +kernel
theorem dL_law_446 : decode cL_law 446 = .ok (.i2l, 1) := by decide +kernel
theorem dL_law_447 : decode cL_law 447 = .ok (.lcmp, 1) := by decide +kernel
theorem dL_law_448 : decode cL_law 448 = .ok (.ifCond .eq 5, 3) := by decide +kernel
theorem dL_law_451 : decode cL_law 451 = .ok (.iconst 0, 1) := by decide +kernel
theorem dL_law_452 : decode cL_law 452 = .ok (.ireturn, 1) := by decide +kernel
theorem dL_law_453 : decode cL_law 453 = .ok (.goto 898, 3) := by decide +kernel
theorem dL_law_456 : decode cL_law 456 = .ok (.aload_n 1, 1) := by decide +kernel
theorem dL_law_457 : decode cL_law 457 = .ok (.aload_n 0, 1) := by decide +kernel
theorem dL_law_458 : decode cL_law 458 = .ok (.iload 4, 2) := by decide +kernel
theorem dL_law_460 : decode cL_law 460 = .ok (.iconst 1, 1) := by decide +kernel
theorem dL_law_461 : decode cL_law 461 = .ok (.iadd, 1) := by decide +kernel
theorem dL_law_462 : decode cL_law 462 = .ok (.iaload, 1) := by decide +kernel
theorem dL_law_463 : decode cL_law 463 = .ok (.aload_n 0, 1) := by decide +kernel
theorem dL_law_464 : decode cL_law 464 = .ok (.iload 4, 2) := by decide +kernel
theorem dL_law_466 : decode cL_law 466 = .ok (.iconst 2, 1) := by decide +kernel
theorem dL_law_467 : decode cL_law 467 = .ok (.iadd, 1) := by decide +kernel
theorem dL_law_468 : decode cL_law 468 = .ok (.iaload, 1) := by decide +kernel
theorem dL_law_469 : decode cL_law 469 = .ok (.aload_n 0, 1) := by decide +kernel
theorem dL_law_470 : decode cL_law 470 = .ok (.iload 4, 2) := by decide +kernel
theorem dL_law_472 : decode cL_law 472 = .ok (.iconst 3, 1) := by decide +kernel
theorem dL_law_473 : decode cL_law 473 = .ok (.iadd, 1) := by decide +kernel
theorem dL_law_474 : decode cL_law 474 = .ok (.iaload, 1) := by decide +kernel
theorem dL_law_475 : decode cL_law 475 = .ok (.aload_n 0, 1) := by decide +kernel
theorem dL_law_476 : decode cL_law 476 = .ok (.iload 4, 2) := by decide +kernel
theorem dL_law_478 : decode cL_law 478 = .ok (.iconst 4, 1) := by decide +kernel
theorem dL_law_479 : decode cL_law 479 = .ok (.iadd, 1) := by decide +kernel
theorem dL_law_480 : decode cL_law 480 = .ok (.iaload, 1) := by decide +kernel
theorem dL_law_481 : decode cL_law 481 = .ok (.aload_n 3, 1) := by decide +kernel
theorem dL_law_482 : decode cL_law 482 = .ok (.invokestatic 92, 3) := by decide +kernel
theorem dL_law_485 : decode cL_law 485 = .ok (.istore 5, 2) := by decide +kernel
theorem dL_law_487 : decode cL_law 487 = .ok (.aload_n 2, 1) := by decide +kernel
theorem dL_law_488 : decode cL_law 488 = .ok (.aload_n 0, 1) := by decide +kernel
theorem dL_law_489 : decode cL_law 489 = .ok (.iload 4, 2) := by decide +kernel
theorem dL_law_491 : decode cL_law 491 = .ok (.iconst 1, 1) := by decide +kernel
theorem dL_law_492 : decode cL_law 492 = .ok (.iadd, 1) := by decide +kernel
theorem dL_law_493 : decode cL_law 493 = .ok (.iaload, 1) := by decide +kernel
theorem dL_law_494 : decode cL_law 494 = .ok (.aload_n 0, 1) := by decide +kernel
theorem dL_law_495 : decode cL_law 495 = .ok (.iload 4, 2) := by decide +kernel
theorem dL_law_497 : decode cL_law 497 = .ok (.iconst 2, 1) := by decide +kernel
theorem dL_law_498 : decode cL_law 498 = .ok (.iadd, 1) := by decide +kernel
theorem dL_law_499 : decode cL_law 499 = .ok (.iaload, 1) := by decide +kernel
theorem dL_law_500 : decode cL_law 500 = .ok (.aload_n 0, 1) := by decide +kernel
theorem dL_law_501 : decode cL_law 501 = .ok (.iload 4, 2) := by decide +kernel
theorem dL_law_503 : decode cL_law 503 = .ok (.iconst 3, 1) := by decide +kernel
theorem dL_law_504 : decode cL_law 504 = .ok (.iadd, 1) := by decide +kernel
theorem dL_law_505 : decode cL_law 505 = .ok (.iaload, 1) := by decide +kernel
theorem dL_law_506 : decode cL_law 506 = .ok (.aload_n 0, 1) := by decide +kernel
theorem dL_law_507 : decode cL_law 507 = .ok (.iload 4, 2) := by decide +kernel
theorem dL_law_509 : decode cL_law 509 = .ok (.iconst 4, 1) := by decide +kernel
theorem dL_law_510 : decode cL_law 510 = .ok (.iadd, 1) := by decide +kernel
theorem dL_law_511 : decode cL_law 511 = .ok (.iaload, 1) := by decide +kernel
theorem dL_law_512 : decode cL_law 512 = .ok (.invokevirtual 94, 3) := by decide +kernel
theorem dL_law_515 : decode cL_law 515 = .ok (.istore 6, 2) := by decide +kernel
theorem dL_law_517 : decode cL_law 517 = .ok (.aload_n 2, 1) := by decide +kernel
theorem dL_law_518 : decode cL_law 518 = .ok (.invokevirtual 77, 3) := by decide +kernel
theorem dL_law_521 : decode cL_law 521 = .ok (.iload 5, 2) := by decide +kernel
theorem dL_law_523 : decode cL_law 523 = .ok (.if_icmp .eq 5, 3) := by decide +kernel
theorem dL_law_526 : decode cL_law 526 = .ok (.iconst 0, 1) := by decide +kernel
theorem dL_law_527 : decode cL_law 527 = .ok (.ireturn, 1) := by decide +kernel
theorem dL_law_528 : decode cL_law 528 = .ok (.iload 5, 2) := by decide +kernel
theorem dL_law_530 : decode cL_law 530 = .ok (.ifCond .ne 15, 3) := by decide +kernel
theorem dL_law_533 : decode cL_law 533 = .ok (.aload_n 3, 1) := by decide +kernel
theorem dL_law_534 : decode cL_law 534 = .ok (.iconst 0, 1) := by decide +kernel
theorem dL_law_535 : decode cL_law 535 = .ok (.laload, 1) := by decide +kernel
theorem dL_law_536 : decode cL_law 536 = .ok (.iload 6, 2) := by decide +kernel
theorem dL_law_538 : decode cL_law 538 = .ok (.i2l, 1) := by decide +kernel
theorem dL_law_539 : decode cL_law 539 = .ok (.lcmp, 1) := by decide +kernel
theorem dL_law_540 : decode cL_law 540 = .ok (.ifCond .eq 5, 3) := by decide +kernel
theorem dL_law_543 : decode cL_law 543 = .ok (.iconst 0, 1) := by decide +kernel
theorem dL_law_544 : decode cL_law 544 = .ok (.ireturn, 1) := by decide +kernel
theorem dL_law_545 : decode cL_law 545 = .ok (.goto 806, 3) := by decide +kernel
theorem dL_law_548 : decode cL_law 548 = .ok (.aload_n 1, 1) := by decide +kernel
theorem dL_law_549 : decode cL_law 549 = .ok (.aload_n 0, 1) := by decide +kernel
theorem dL_law_550 : decode cL_law 550 = .ok (.iload 4, 2) := by decide +kernel
theorem dL_law_552 : decode cL_law 552 = .ok (.iconst 1, 1) := by decide +kernel
theorem dL_law_553 : decode cL_law 553 = .ok (.iadd, 1) := by decide +kernel
theorem dL_law_554 : decode cL_law 554 = .ok (.iaload, 1) := by decide +kernel
theorem dL_law_555 : decode cL_law 555 = .ok (.aload_n 0, 1) := by decide +kernel
theorem dL_law_556 : decode cL_law 556 = .ok (.iload 4, 2) := by decide +kernel
theorem dL_law_558 : decode cL_law 558 = .ok (.iconst 2, 1) := by decide +kernel
theorem dL_law_559 : decode cL_law 559 = .ok (.iadd, 1) := by decide +kernel
theorem dL_law_560 : decode cL_law 560 = .ok (.iaload, 1) := by decide +kernel
theorem dL_law_561 : decode cL_law 561 = .ok (.aload_n 0, 1) := by decide +kernel
theorem dL_law_562 : decode cL_law 562 = .ok (.iload 4, 2) := by decide +kernel
theorem dL_law_564 : decode cL_law 564 = .ok (.iconst 3, 1) := by decide +kernel
theorem dL_law_565 : decode cL_law 565 = .ok (.iadd, 1) := by decide +kernel
theorem dL_law_566 : decode cL_law 566 = .ok (.iaload, 1) := by decide +kernel
theorem dL_law_567 : decode cL_law 567 = .ok (.aload_n 3, 1) := by decide +kernel
theorem dL_law_568 : decode cL_law 568 = .ok (.invokestatic 95, 3) := by decide +kernel
theorem dL_law_571 : decode cL_law 571 = .ok (.istore 5, 2) := by decide +kernel
theorem dL_law_573 : decode cL_law 573 = .ok (.aload_n 2, 1) := by decide +kernel
theorem dL_law_574 : decode cL_law 574 = .ok (.aload_n 0, 1) := by decide +kernel
theorem dL_law_575 : decode cL_law 575 = .ok (.iload 4, 2) := by decide +kernel
theorem dL_law_577 : decode cL_law 577 = .ok (.iconst 1, 1) := by decide +kernel
theorem dL_law_578 : decode cL_law 578 = .ok (.iadd, 1) := by decide +kernel
theorem dL_law_579 : decode cL_law 579 = .ok (.iaload, 1) := by decide +kernel
theorem dL_law_580 : decode cL_law 580 = .ok (.aload_n 0, 1) := by decide +kernel
theorem dL_law_581 : decode cL_law 581 = .ok (.iload 4, 2) := by decide +kernel
theorem dL_law_583 : decode cL_law 583 = .ok (.iconst 2, 1) := by decide +kernel
theorem dL_law_584 : decode cL_law 584 = .ok (.iadd, 1) := by decide +kernel
theorem dL_law_585 : decode cL_law 585 = .ok (.iaload, 1) := by decide +kernel
theorem dL_law_586 : decode cL_law 586 = .ok (.aload_n 0, 1) := by decide +kernel
theorem dL_law_587 : decode cL_law 587 = .ok (.iload 4, 2) := by decide +kernel
theorem dL_law_589 : decode cL_law 589 = .ok (.iconst 3, 1) := by decide +kernel
theorem dL_law_590 : decode cL_law 590 = .ok (.iadd, 1) := by decide +kernel
theorem dL_law_591 : decode cL_law 591 = .ok (.iaload, 1) := by decide +kernel
theorem dL_law_592 : decode cL_law 592 = .ok (.invokevirtual 97, 3) := by decide +kernel
theorem dL_law_595 : decode cL_law 595 = .ok (.istore 6, 2) := by decide +kernel
theorem dL_law_597 : decode cL_law 597 = .ok (.aload_n 2, 1) := by decide +kernel
theorem dL_law_598 : decode cL_law 598 = .ok (.invokevirtual 77, 3) := by decide +kernel
theorem dL_law_601 : decode cL_law 601 = .ok (.iload 5, 2) := by decide +kernel
theorem dL_law_603 : decode cL_law 603 = .ok (.if_icmp .eq 5, 3) := by decide +kernel
theorem dL_law_606 : decode cL_law 606 = .ok (.iconst 0, 1) := by decide +kernel
theorem dL_law_607 : decode cL_law 607 = .ok (.ireturn, 1) := by decide +kernel
theorem dL_law_608 : decode cL_law 608 = .ok (.iload 5, 2) := by decide +kernel
theorem dL_law_610 : decode cL_law 610 = .ok (.ifCond .ne 15, 3) := by decide +kernel
theorem dL_law_613 : decode cL_law 613 = .ok (.aload_n 3, 1) := by decide +kernel
theorem dL_law_614 : decode cL_law 614 = .ok (.iconst 0, 1) := by decide +kernel
theorem dL_law_615 : decode cL_law 615 = .ok (.laload, 1) := by decide +kernel
theorem dL_law_616 : decode cL_law 616 = .ok (.iload 6, 2) := by decide +kernel
theorem dL_law_618 : decode cL_law 618 = .ok (.i2l, 1) := by decide +kernel
theorem dL_law_619 : decode cL_law 619 = .ok (.lcmp, 1) := by decide +kernel
theorem dL_law_620 : decode cL_law 620 = .ok (.ifCond .eq 5, 3) := by decide +kernel
theorem dL_law_623 : decode cL_law 623 = .ok (.iconst 0, 1) := by decide +kernel
theorem dL_law_624 : decode cL_law 624 = .ok (.ireturn, 1) := by decide +kernel
theorem dL_law_625 : decode cL_law 625 = .ok (.goto 726, 3) := by decide +kernel
theorem dL_law_628 : decode cL_law 628 = .ok (.aload_n 1, 1) := by decide +kernel
theorem dL_law_629 : decode cL_law 629 = .ok (.aload_n 0, 1) := by decide +kernel
theorem dL_law_630 : decode cL_law 630 = .ok (.iload 4, 2) := by decide +kernel
theorem dL_law_632 : decode cL_law 632 = .ok (.iconst 1, 1) := by decide +kernel
theorem dL_law_633 : decode cL_law 633 = .ok (.iadd, 1) := by decide +kernel
theorem dL_law_634 : decode cL_law 634 = .ok (.iaload, 1) := by decide +kernel
theorem dL_law_635 : decode cL_law 635 = .ok (.aload_n 0, 1) := by decide +kernel
theorem dL_law_636 : decode cL_law 636 = .ok (.iload 4, 2) := by decide +kernel
theorem dL_law_638 : decode cL_law 638 = .ok (.iconst 2, 1) := by decide +kernel
theorem dL_law_639 : decode cL_law 639 = .ok (.iadd, 1) := by decide +kernel
theorem dL_law_640 : decode cL_law 640 = .ok (.iaload, 1) := by decide +kernel
theorem dL_law_641 : decode cL_law 641 = .ok (.aload_n 3, 1) := by decide +kernel
theorem dL_law_642 : decode cL_law 642 = .ok (.invokestatic 98, 3) := by decide +kernel
theorem dL_law_645 : decode cL_law 645 = .ok (.istore 5, 2) := by decide +kernel
theorem dL_law_647 : decode cL_law 647 = .ok (.aload_n 2, 1) := by decide +kernel
theorem dL_law_648 : decode cL_law 648 = .ok (.aload_n 0, 1) := by decide +kernel
theorem dL_law_649 : decode cL_law 649 = .ok (.iload 4, 2) := by decide +kernel
theorem dL_law_651 : decode cL_law 651 = .ok (.iconst 1, 1) := by decide +kernel
theorem dL_law_652 : decode cL_law 652 = .ok (.iadd, 1) := by decide +kernel
theorem dL_law_653 : decode cL_law 653 = .ok (.iaload, 1) := by decide +kernel
theorem dL_law_654 : decode cL_law 654 = .ok (.aload_n 0, 1) := by decide +kernel
theorem dL_law_655 : decode cL_law 655 = .ok (.iload 4, 2) := by decide +kernel
theorem dL_law_657 : decode cL_law 657 = .ok (.iconst 2, 1) := by decide +kernel
theorem dL_law_658 : decode cL_law 658 = .ok (.iadd, 1) := by decide +kernel
theorem dL_law_659 : decode cL_law 659 = .ok (.iaload, 1) := by decide +kernel
theorem dL_law_660 : decode cL_law 660 = .ok (.invokevirtual 100, 3) := by decide +kernel
theorem dL_law_663 : decode cL_law 663 = .ok (.istore 6, 2) := by decide +kernel
theorem dL_law_665 : decode cL_law 665 = .ok (.aload_n 2, 1) := by decide +kernel
theorem dL_law_666 : decode cL_law 666 = .ok (.invokevirtual 77, 3) := by decide +kernel
theorem dL_law_669 : decode cL_law 669 = .ok (.iload 5, 2) := by decide +kernel
theorem dL_law_671 : decode cL_law 671 = .ok (.if_icmp .eq 5, 3) := by decide +kernel
theorem dL_law_674 : decode cL_law 674 = .ok (.iconst 0, 1) := by decide +kernel
theorem dL_law_675 : decode cL_law 675 = .ok (.ireturn, 1) := by decide +kernel
theorem dL_law_676 : decode cL_law 676 = .ok (.iload 5, 2) := by decide +kernel
theorem dL_law_678 : decode cL_law 678 = .ok (.ifCond .ne 15, 3) := by decide +kernel
theorem dL_law_681 : decode cL_law 681 = .ok (.aload_n 3, 1) := by decide +kernel
theorem dL_law_682 : decode cL_law 682 = .ok (.iconst 0, 1) := by decide +kernel
theorem dL_law_683 : decode cL_law 683 = .ok (.laload, 1) := by decide +kernel
theorem dL_law_684 : decode cL_law 684 = .ok (.iload 6, 2) := by decide +kernel
theorem dL_law_686 : decode cL_law 686 = .ok (.i2l, 1) := by decide +kernel
theorem dL_law_687 : decode cL_law 687 = .ok (.lcmp, 1) := by decide +kernel
theorem dL_law_688 : decode cL_law 688 = .ok (.ifCond .eq 5, 3) := by decide +kernel
theorem dL_law_691 : decode cL_law 691 = .ok (.iconst 0, 1) := by decide +kernel
theorem dL_law_692 : decode cL_law 692 = .ok (.ireturn, 1) := by decide +kernel
theorem dL_law_693 : decode cL_law 693 = .ok (.goto 658, 3) := by decide +kernel
theorem dL_law_696 : decode cL_law 696 = .ok (.aload_n 1, 1) := by decide +kernel
theorem dL_law_697 : decode cL_law 697 = .ok (.aload_n 0, 1) := by decide +kernel
theorem dL_law_698 : decode cL_law 698 = .ok (.iload 4, 2) := by decide +kernel
theorem dL_law_700 : decode cL_law 700 = .ok (.iconst 1, 1) := by decide +kernel
theorem dL_law_701 : decode cL_law 701 = .ok (.iadd, 1) := by decide +kernel
theorem dL_law_702 : decode cL_law 702 = .ok (.iaload, 1) := by decide +kernel
theorem dL_law_703 : decode cL_law 703 = .ok (.aload_n 3, 1) := by decide +kernel
theorem dL_law_704 : decode cL_law 704 = .ok (.invokestatic 101, 3) := by decide +kernel
theorem dL_law_707 : decode cL_law 707 = .ok (.istore 5, 2) := by decide +kernel
theorem dL_law_709 : decode cL_law 709 = .ok (.aload_n 2, 1) := by decide +kernel
theorem dL_law_710 : decode cL_law 710 = .ok (.aload_n 0, 1) := by decide +kernel
theorem dL_law_711 : decode cL_law 711 = .ok (.iload 4, 2) := by decide +kernel
theorem dL_law_713 : decode cL_law 713 = .ok (.iconst 1, 1) := by decide +kernel
theorem dL_law_714 : decode cL_law 714 = .ok (.iadd, 1) := by decide +kernel
theorem dL_law_715 : decode cL_law 715 = .ok (.iaload, 1) := by decide +kernel
theorem dL_law_716 : decode cL_law 716 = .ok (.invokevirtual 104, 3) := by decide +kernel
theorem dL_law_719 : decode cL_law 719 = .ok (.istore 6, 2) := by decide +kernel
theorem dL_law_721 : decode cL_law 721 = .ok (.aload_n 2, 1) := by decide +kernel
theorem dL_law_722 : decode cL_law 722 = .ok (.invokevirtual 77, 3) := by decide +kernel
theorem dL_law_725 : decode cL_law 725 = .ok (.iload 5, 2) := by decide +kernel
theorem dL_law_727 : decode cL_law 727 = .ok (.if_icmp .eq 5, 3) := by decide +kernel
theorem dL_law_730 : decode cL_law 730 = .ok (.iconst 0, 1) := by decide +kernel
theorem dL_law_731 : decode cL_law 731 = .ok (.ireturn, 1) := by decide +kernel
theorem dL_law_732 : decode cL_law 732 = .ok (.iload 5, 2) := by decide +kernel
theorem dL_law_734 : decode cL_law 734 = .ok (.ifCond .ne 15, 3) := by decide +kernel
theorem dL_law_737 : decode cL_law 737 = .ok (.aload_n 3, 1) := by decide +kernel
theorem dL_law_738 : decode cL_law 738 = .ok (.iconst 0, 1) := by decide +kernel
theorem dL_law_739 : decode cL_law 739 = .ok (.laload, 1) := by decide +kernel
theorem dL_law_740 : decode cL_law 740 = .ok (.iload 6, 2) := by decide +kernel
theorem dL_law_742 : decode cL_law 742 = .ok (.i2l, 1) := by decide +kernel
theorem dL_law_743 : decode cL_law 743 = .ok (.lcmp, 1) := by decide +kernel
theorem dL_law_744 : decode cL_law 744 = .ok (.ifCond .eq 5, 3) := by decide +kernel
theorem dL_law_747 : decode cL_law 747 = .ok (.iconst 0, 1) := by decide +kernel
theorem dL_law_748 : decode cL_law 748 = .ok (.ireturn, 1) := by decide +kernel
theorem dL_law_749 : decode cL_law 749 = .ok (.goto 602, 3) := by decide +kernel
theorem dL_law_752 : decode cL_law 752 = .ok (.aload_n 1, 1) := by decide +kernel
theorem dL_law_753 : decode cL_law 753 = .ok (.aload_n 0, 1) := by decide +kernel
theorem dL_law_754 : decode cL_law 754 = .ok (.iload 4, 2) := by decide +kernel
theorem dL_law_756 : decode cL_law 756 = .ok (.iconst 1, 1) := by decide +kernel
theorem dL_law_757 : decode cL_law 757 = .ok (.iadd, 1) := by decide +kernel
theorem dL_law_758 : decode cL_law 758 = .ok (.iaload, 1) := by decide +kernel
theorem dL_law_759 : decode cL_law 759 = .ok (.aload_n 0, 1) := by decide +kernel
theorem dL_law_760 : decode cL_law 760 = .ok (.iload 4, 2) := by decide +kernel
theorem dL_law_762 : decode cL_law 762 = .ok (.iconst 2, 1) := by decide +kernel
theorem dL_law_763 : decode cL_law 763 = .ok (.iadd, 1) := by decide +kernel
theorem dL_law_764 : decode cL_law 764 = .ok (.iaload, 1) := by decide +kernel
theorem dL_law_765 : decode cL_law 765 = .ok (.aload_n 0, 1) := by decide +kernel
theorem dL_law_766 : decode cL_law 766 = .ok (.iload 4, 2) := by decide +kernel
theorem dL_law_768 : decode cL_law 768 = .ok (.iconst 3, 1) := by decide +kernel
theorem dL_law_769 : decode cL_law 769 = .ok (.iadd, 1) := by decide +kernel
theorem dL_law_770 : decode cL_law 770 = .ok (.iaload, 1) := by decide +kernel
theorem dL_law_771 : decode cL_law 771 = .ok (.aload_n 3, 1) := by decide +kernel
theorem dL_law_772 : decode cL_law 772 = .ok (.invokestatic 105, 3) := by decide +kernel
theorem dL_law_775 : decode cL_law 775 = .ok (.istore 5, 2) := by decide +kernel
theorem dL_law_777 : decode cL_law 777 = .ok (.aload_n 2, 1) := by decide +kernel
theorem dL_law_778 : decode cL_law 778 = .ok (.aload_n 0, 1) := by decide +kernel
theorem dL_law_779 : decode cL_law 779 = .ok (.iload 4, 2) := by decide +kernel
theorem dL_law_781 : decode cL_law 781 = .ok (.iconst 1, 1) := by decide +kernel
theorem dL_law_782 : decode cL_law 782 = .ok (.iadd, 1) := by decide +kernel
theorem dL_law_783 : decode cL_law 783 = .ok (.iaload, 1) := by decide +kernel
theorem dL_law_784 : decode cL_law 784 = .ok (.aload_n 0, 1) := by decide +kernel
theorem dL_law_785 : decode cL_law 785 = .ok (.iload 4, 2) := by decide +kernel
theorem dL_law_787 : decode cL_law 787 = .ok (.iconst 2, 1) := by decide +kernel
theorem dL_law_788 : decode cL_law 788 = .ok (.iadd, 1) := by decide +kernel
theorem dL_law_789 : decode cL_law 789 = .ok (.iaload, 1) := by decide +kernel
theorem dL_law_790 : decode cL_law 790 = .ok (.aload_n 0, 1) := by decide +kernel
theorem dL_law_791 : decode cL_law 791 = .ok (.iload 4, 2) := by decide +kernel
theorem dL_law_793 : decode cL_law 793 = .ok (.iconst 3, 1) := by decide +kernel
theorem dL_law_794 : decode cL_law 794 = .ok (.iadd, 1) := by decide +kernel
theorem dL_law_795 : decode cL_law 795 = .ok (.iaload, 1) := by decide +kernel
theorem dL_law_796 : decode cL_law 796 = .ok (.invokevirtual 107, 3) := by decide +kernel
theorem dL_law_799 : decode cL_law 799 = .ok (.istore 6, 2) := by decide +kernel
theorem dL_law_801 : decode cL_law 801 = .ok (.aload_n 2, 1) := by decide +kernel
theorem dL_law_802 : decode cL_law 802 = .ok (.invokevirtual 77, 3) := by decide +kernel
theorem dL_law_805 : decode cL_law 805 = .ok (.iload 5, 2) := by decide +kernel
theorem dL_law_807 : decode cL_law 807 = .ok (.if_icmp .eq 5, 3) := by decide +kernel
theorem dL_law_810 : decode cL_law 810 = .ok (.iconst 0, 1) := by decide +kernel
theorem dL_law_811 : decode cL_law 811 = .ok (.ireturn, 1) := by decide +kernel
theorem dL_law_812 : decode cL_law 812 = .ok (.iload 5, 2) := by decide +kernel
theorem dL_law_814 : decode cL_law 814 = .ok (.ifCond .ne 15, 3) := by decide +kernel
theorem dL_law_817 : decode cL_law 817 = .ok (.aload_n 3, 1) := by decide +kernel
theorem dL_law_818 : decode cL_law 818 = .ok (.iconst 0, 1) := by decide +kernel
theorem dL_law_819 : decode cL_law 819 = .ok (.laload, 1) := by decide +kernel
theorem dL_law_820 : decode cL_law 820 = .ok (.iload 6, 2) := by decide +kernel
theorem dL_law_822 : decode cL_law 822 = .ok (.i2l, 1) := by decide +kernel
theorem dL_law_823 : decode cL_law 823 = .ok (.lcmp, 1) := by decide +kernel
theorem dL_law_824 : decode cL_law 824 = .ok (.ifCond .eq 5, 3) := by decide +kernel
theorem dL_law_827 : decode cL_law 827 = .ok (.iconst 0, 1) := by decide +kernel
theorem dL_law_828 : decode cL_law 828 = .ok (.ireturn, 1) := by decide +kernel
theorem dL_law_829 : decode cL_law 829 = .ok (.goto 522, 3) := by decide +kernel
theorem dL_law_832 : decode cL_law 832 = .ok (.aload_n 1, 1) := by decide +kernel
theorem dL_law_833 : decode cL_law 833 = .ok (.aload_n 0, 1) := by decide +kernel
theorem dL_law_834 : decode cL_law 834 = .ok (.iload 4, 2) := by decide +kernel
theorem dL_law_836 : decode cL_law 836 = .ok (.iconst 1, 1) := by decide +kernel
theorem dL_law_837 : decode cL_law 837 = .ok (.iadd, 1) := by decide +kernel
theorem dL_law_838 : decode cL_law 838 = .ok (.iaload, 1) := by decide +kernel
theorem dL_law_839 : decode cL_law 839 = .ok (.aload_n 0, 1) := by decide +kernel
theorem dL_law_840 : decode cL_law 840 = .ok (.iload 4, 2) := by decide +kernel
theorem dL_law_842 : decode cL_law 842 = .ok (.iconst 2, 1) := by decide +kernel
theorem dL_law_843 : decode cL_law 843 = .ok (.iadd, 1) := by decide +kernel
theorem dL_law_844 : decode cL_law 844 = .ok (.iaload, 1) := by decide +kernel
theorem dL_law_845 : decode cL_law 845 = .ok (.aload_n 3, 1) := by decide +kernel
theorem dL_law_846 : decode cL_law 846 = .ok (.invokestatic 108, 3) := by decide +kernel
theorem dL_law_849 : decode cL_law 849 = .ok (.istore 5, 2) := by decide +kernel
theorem dL_law_851 : decode cL_law 851 = .ok (.aload_n 2, 1) := by decide +kernel
theorem dL_law_852 : decode cL_law 852 = .ok (.aload_n 0, 1) := by decide +kernel
theorem dL_law_853 : decode cL_law 853 = .ok (.iload 4, 2) := by decide +kernel
theorem dL_law_855 : decode cL_law 855 = .ok (.iconst 1, 1) := by decide +kernel
theorem dL_law_856 : decode cL_law 856 = .ok (.iadd, 1) := by decide +kernel
theorem dL_law_857 : decode cL_law 857 = .ok (.iaload, 1) := by decide +kernel
theorem dL_law_858 : decode cL_law 858 = .ok (.aload_n 0, 1) := by decide +kernel
theorem dL_law_859 : decode cL_law 859 = .ok (.iload 4, 2) := by decide +kernel
theorem dL_law_861 : decode cL_law 861 = .ok (.iconst 2, 1) := by decide +kernel
theorem dL_law_862 : decode cL_law 862 = .ok (.iadd, 1) := by decide +kernel
theorem dL_law_863 : decode cL_law 863 = .ok (.iaload, 1) := by decide +kernel
theorem dL_law_864 : decode cL_law 864 = .ok (.invokevirtual 110, 3) := by decide +kernel
theorem dL_law_867 : decode cL_law 867 = .ok (.istore 6, 2) := by decide +kernel
theorem dL_law_869 : decode cL_law 869 = .ok (.aload_n 2, 1) := by decide +kernel
theorem dL_law_870 : decode cL_law 870 = .ok (.invokevirtual 77, 3) := by decide +kernel
theorem dL_law_873 : decode cL_law 873 = .ok (.iload 5, 2) := by decide +kernel
theorem dL_law_875 : decode cL_law 875 = .ok (.if_icmp .eq 5, 3) := by decide +kernel
theorem dL_law_878 : decode cL_law 878 = .ok (.iconst 0, 1) := by decide +kernel
theorem dL_law_879 : decode cL_law 879 = .ok (.ireturn, 1) := by decide +kernel
theorem dL_law_880 : decode cL_law 880 = .ok (.iload 5, 2) := by decide +kernel
theorem dL_law_882 : decode cL_law 882 = .ok (.ifCond .ne 15, 3) := by decide +kernel
theorem dL_law_885 : decode cL_law 885 = .ok (.aload_n 3, 1) := by decide +kernel
theorem dL_law_886 : decode cL_law 886 = .ok (.iconst 0, 1) := by decide +kernel
theorem dL_law_887 : decode cL_law 887 = .ok (.laload, 1) := by decide +kernel
theorem dL_law_888 : decode cL_law 888 = .ok (.iload 6, 2) := by decide +kernel
theorem dL_law_890 : decode cL_law 890 = .ok (.i2l, 1) := by decide +kernel
theorem dL_law_891 : decode cL_law 891 = .ok (.lcmp, 1) := by decide +kernel
theorem dL_law_892 : decode cL_law 892 = .ok (.ifCond .eq 5, 3) := by decide +kernel
theorem dL_law_895 : decode cL_law 895 = .ok (.iconst 0, 1) := by decide +kernel
theorem dL_law_896 : decode cL_law 896 = .ok (.ireturn, 1) := by decide +kernel
theorem dL_law_897 : decode cL_law 897 = .ok (.goto 454, 3) := by decide +kernel
theorem dL_law_900 : decode cL_law 900 = .ok (.aload_n 1, 1) := by decide +kernel
theorem dL_law_901 : decode cL_law 901 = .ok (.aload_n 0, 1) := by decide +kernel
theorem dL_law_902 : decode cL_law 902 = .ok (.iload 4, 2) := by decide +kernel
theorem dL_law_904 : decode cL_law 904 = .ok (.iconst 1, 1) := by decide +kernel
theorem dL_law_905 : decode cL_law 905 = .ok (.iadd, 1) := by decide +kernel
theorem dL_law_906 : decode cL_law 906 = .ok (.iaload, 1) := by decide +kernel
theorem dL_law_907 : decode cL_law 907 = .ok (.aload_n 3, 1) := by decide +kernel
theorem dL_law_908 : decode cL_law 908 = .ok (.invokestatic 111, 3) := by decide +kernel
theorem dL_law_911 : decode cL_law 911 = .ok (.istore 5, 2) := by decide +kernel
theorem dL_law_913 : decode cL_law 913 = .ok (.aload_n 2, 1) := by decide +kernel
theorem dL_law_914 : decode cL_law 914 = .ok (.aload_n 0, 1) := by decide +kernel
theorem dL_law_915 : decode cL_law 915 = .ok (.iload 4, 2) := by decide +kernel
theorem dL_law_917 : decode cL_law 917 = .ok (.iconst 1, 1) := by decide +kernel
theorem dL_law_918 : decode cL_law 918 = .ok (.iadd, 1) := by decide +kernel
theorem dL_law_919 : decode cL_law 919 = .ok (.iaload, 1) := by decide +kernel
theorem dL_law_920 : decode cL_law 920 = .ok (.invokevirtual 113, 3) := by decide +kernel
theorem dL_law_923 : decode cL_law 923 = .ok (.istore 6, 2) := by decide +kernel
theorem dL_law_925 : decode cL_law 925 = .ok (.aload_n 2, 1) := by decide +kernel
theorem dL_law_926 : decode cL_law 926 = .ok (.invokevirtual 77, 3) := by decide +kernel
theorem dL_law_929 : decode cL_law 929 = .ok (.iload 5, 2) := by decide +kernel
theorem dL_law_931 : decode cL_law 931 = .ok (.if_icmp .eq 5, 3) := by decide +kernel
theorem dL_law_934 : decode cL_law 934 = .ok (.iconst 0, 1) := by decide +kernel
theorem dL_law_935 : decode cL_law 935 = .ok (.ireturn, 1) := by decide +kernel
theorem dL_law_936 : decode cL_law 936 = .ok (.iload 5, 2) := by decide +kernel
theorem dL_law_938 : decode cL_law 938 = .ok (.ifCond .ne 15, 3) := by decide +kernel
theorem dL_law_941 : decode cL_law 941 = .ok (.aload_n 3, 1) := by decide +kernel
theorem dL_law_942 : decode cL_law 942 = .ok (.iconst 0, 1) := by decide +kernel
theorem dL_law_943 : decode cL_law 943 = .ok (.laload, 1) := by decide +kernel
theorem dL_law_944 : decode cL_law 944 = .ok (.iload 6, 2) := by decide +kernel
theorem dL_law_946 : decode cL_law 946 = .ok (.i2l, 1) := by decide +kernel
theorem dL_law_947 : decode cL_law 947 = .ok (.lcmp, 1) := by decide +kernel
theorem dL_law_948 : decode cL_law 948 = .ok (.ifCond .eq 5, 3) := by decide +kernel
theorem dL_law_951 : decode cL_law 951 = .ok (.iconst 0, 1) := by decide +kernel
theorem dL_law_952 : decode cL_law 952 = .ok (.ireturn, 1) := by decide +kernel
theorem dL_law_953 : decode cL_law 953 = .ok (.goto 398, 3) := by decide +kernel
theorem dL_law_956 : decode cL_law 956 = .ok (.aload_n 1, 1) := by decide +kernel
theorem dL_law_957 : decode cL_law 957 = .ok (.aload_n 0, 1) := by decide +kernel
theorem dL_law_958 : decode cL_law 958 = .ok (.iload 4, 2) := by decide +kernel
theorem dL_law_960 : decode cL_law 960 = .ok (.iconst 1, 1) := by decide +kernel
theorem dL_law_961 : decode cL_law 961 = .ok (.iadd, 1) := by decide +kernel
theorem dL_law_962 : decode cL_law 962 = .ok (.iaload, 1) := by decide +kernel
theorem dL_law_963 : decode cL_law 963 = .ok (.aload_n 0, 1) := by decide +kernel
theorem dL_law_964 : decode cL_law 964 = .ok (.iload 4, 2) := by decide +kernel
theorem dL_law_966 : decode cL_law 966 = .ok (.iconst 2, 1) := by decide +kernel
theorem dL_law_967 : decode cL_law 967 = .ok (.iadd, 1) := by decide +kernel
theorem dL_law_968 : decode cL_law 968 = .ok (.iaload, 1) := by decide +kernel
theorem dL_law_969 : decode cL_law 969 = .ok (.aload_n 0, 1) := by decide +kernel
theorem dL_law_970 : decode cL_law 970 = .ok (.iload 4, 2) := by decide +kernel
theorem dL_law_972 : decode cL_law 972 = .ok (.iconst 3, 1) := by decide +kernel
theorem dL_law_973 : decode cL_law 973 = .ok (.iadd, 1) := by decide +kernel
theorem dL_law_974 : decode cL_law 974 = .ok (.iaload, 1) := by decide +kernel
theorem dL_law_975 : decode cL_law 975 = .ok (.aload_n 0, 1) := by decide +kernel
theorem dL_law_976 : decode cL_law 976 = .ok (.iload 4, 2) := by decide +kernel
theorem dL_law_978 : decode cL_law 978 = .ok (.iconst 4, 1) := by decide +kernel
theorem dL_law_979 : decode cL_law 979 = .ok (.iadd, 1) := by decide +kernel
theorem dL_law_980 : decode cL_law 980 = .ok (.iaload, 1) := by decide +kernel
theorem dL_law_981 : decode cL_law 981 = .ok (.aload_n 3, 1) := by decide +kernel
theorem dL_law_982 : decode cL_law 982 = .ok (.invokestatic 114, 3) := by decide +kernel
theorem dL_law_985 : decode cL_law 985 = .ok (.istore 5, 2) := by decide +kernel
theorem dL_law_987 : decode cL_law 987 = .ok (.aload_n 2, 1) := by decide +kernel
theorem dL_law_988 : decode cL_law 988 = .ok (.aload_n 0, 1) := by decide +kernel
theorem dL_law_989 : decode cL_law 989 = .ok (.iload 4, 2) := by decide +kernel
theorem dL_law_991 : decode cL_law 991 = .ok (.iconst 1, 1) := by decide +kernel
theorem dL_law_992 : decode cL_law 992 = .ok (.iadd, 1) := by decide +kernel
theorem dL_law_993 : decode cL_law 993 = .ok (.iaload, 1) := by decide +kernel
theorem dL_law_994 : decode cL_law 994 = .ok (.aload_n 0, 1) := by decide +kernel
theorem dL_law_995 : decode cL_law 995 = .ok (.iload 4, 2) := by decide +kernel
theorem dL_law_997 : decode cL_law 997 = .ok (.iconst 2, 1) := by decide +kernel
theorem dL_law_998 : decode cL_law 998 = .ok (.iadd, 1) := by decide +kernel
theorem dL_law_999 : decode cL_law 999 = .ok (.iaload, 1) := by decide +kernel
theorem dL_law_1000 : decode cL_law 1000 = .ok (.aload_n 0, 1) := by decide +kernel
theorem dL_law_1001 : decode cL_law 1001 = .ok (.iload 4, 2) := by decide +kernel
theorem dL_law_1003 : decode cL_law 1003 = .ok (.iconst 3, 1) := by decide +kernel
theorem dL_law_1004 : decode cL_law 1004 = .ok (.iadd, 1) := by decide +kernel
theorem dL_law_1005 : decode cL_law 1005 = .ok (.iaload, 1) := by decide +kernel
theorem dL_law_1006 : decode cL_law 1006 = .ok (.aload_n 0, 1) := by decide +kernel
theorem dL_law_1007 : decode cL_law 1007 = .ok (.iload 4, 2) := by decide +kernel
theorem dL_law_1009 : decode cL_law 1009 = .ok (.iconst 4, 1) := by decide +kernel
theorem dL_law_1010 : decode cL_law 1010 = .ok (.iadd, 1) := by decide +kernel
theorem dL_law_1011 : decode cL_law 1011 = .ok (.iaload, 1) := by decide +kernel
theorem dL_law_1012 : decode cL_law 1012 = .ok (.invokevirtual 116, 3) := by decide +kernel
theorem dL_law_1015 : decode cL_law 1015 = .ok (.istore 6, 2) := by decide +kernel
theorem dL_law_1017 : decode cL_law 1017 = .ok (.aload_n 2, 1) := by decide +kernel
theorem dL_law_1018 : decode cL_law 1018 = .ok (.invokevirtual 77, 3) := by decide +kernel
theorem dL_law_1021 : decode cL_law 1021 = .ok (.iload 5, 2) := by decide +kernel
theorem dL_law_1023 : decode cL_law 1023 = .ok (.if_icmp .eq 5, 3) := by decide +kernel
theorem dL_law_1026 : decode cL_law 1026 = .ok (.iconst 0, 1) := by decide +kernel
theorem dL_law_1027 : decode cL_law 1027 = .ok (.ireturn, 1) := by decide +kernel
theorem dL_law_1028 : decode cL_law 1028 = .ok (.iload 5, 2) := by decide +kernel
theorem dL_law_1030 : decode cL_law 1030 = .ok (.ifCond .ne 15, 3) := by decide +kernel
theorem dL_law_1033 : decode cL_law 1033 = .ok (.aload_n 3, 1) := by decide +kernel
theorem dL_law_1034 : decode cL_law 1034 = .ok (.iconst 0, 1) := by decide +kernel
theorem dL_law_1035 : decode cL_law 1035 = .ok (.laload, 1) := by decide +kernel
theorem dL_law_1036 : decode cL_law 1036 = .ok (.iload 6, 2) := by decide +kernel
theorem dL_law_1038 : decode cL_law 1038 = .ok (.i2l, 1) := by decide +kernel
theorem dL_law_1039 : decode cL_law 1039 = .ok (.lcmp, 1) := by decide +kernel
theorem dL_law_1040 : decode cL_law 1040 = .ok (.ifCond .eq 5, 3) := by decide +kernel
theorem dL_law_1043 : decode cL_law 1043 = .ok (.iconst 0, 1) := by decide +kernel
theorem dL_law_1044 : decode cL_law 1044 = .ok (.ireturn, 1) := by decide +kernel
theorem dL_law_1045 : decode cL_law 1045 = .ok (.goto 306, 3) := by decide +kernel
theorem dL_law_1048 : decode cL_law 1048 = .ok (.aload_n 1, 1) := by decide +kernel
theorem dL_law_1049 : decode cL_law 1049 = .ok (.aload_n 0, 1) := by decide +kernel
theorem dL_law_1050 : decode cL_law 1050 = .ok (.iload 4, 2) := by decide +kernel
theorem dL_law_1052 : decode cL_law 1052 = .ok (.iconst 1, 1) := by decide +kernel
theorem dL_law_1053 : decode cL_law 1053 = .ok (.iadd, 1) := by decide +kernel
theorem dL_law_1054 : decode cL_law 1054 = .ok (.iaload, 1) := by decide +kernel
theorem dL_law_1055 : decode cL_law 1055 = .ok (.aload_n 3, 1) := by decide +kernel
theorem dL_law_1056 : decode cL_law 1056 = .ok (.invokestatic 117, 3) := by decide +kernel
theorem dL_law_1059 : decode cL_law 1059 = .ok (.istore 5, 2) := by decide +kernel
theorem dL_law_1061 : decode cL_law 1061 = .ok (.aload_n 2, 1) := by decide +kernel
theorem dL_law_1062 : decode cL_law 1062 = .ok (.aload_n 0, 1) := by decide +kernel
theorem dL_law_1063 : decode cL_law 1063 = .ok (.iload 4, 2) := by decide +kernel
theorem dL_law_1065 : decode cL_law 1065 = .ok (.iconst 1, 1) := by decide +kernel
theorem dL_law_1066 : decode cL_law 1066 = .ok (.iadd, 1) := by decide +kernel
theorem dL_law_1067 : decode cL_law 1067 = .ok (.iaload, 1) := by decide +kernel
theorem dL_law_1068 : decode cL_law 1068 = .ok (.invokevirtual 119, 3) := by decide +kernel
theorem dL_law_1071 : decode cL_law 1071 = .ok (.istore 6, 2) := by decide +kernel
theorem dL_law_1073 : decode cL_law 1073 = .ok (.aload_n 2, 1) := by decide +kernel
theorem dL_law_1074 : decode cL_law 1074 = .ok (.invokevirtual 77, 3) := by decide +kernel
theorem dL_law_1077 : decode cL_law 1077 = .ok (.iload 5, 2) := by decide +kernel
theorem dL_law_1079 : decode cL_law 1079 = .ok (.if_icmp .eq 5, 3) := by decide +kernel
theorem dL_law_1082 : decode cL_law 1082 = .ok (.iconst 0, 1) := by decide +kernel
theorem dL_law_1083 : decode cL_law 1083 = .ok (.ireturn, 1) := by decide +kernel
theorem dL_law_1084 : decode cL_law 1084 = .ok (.iload 5, 2) := by decide +kernel
theorem dL_law_1086 : decode cL_law 1086 = .ok (.ifCond .ne 15, 3) := by decide +kernel
theorem dL_law_1089 : decode cL_law 1089 = .ok (.aload_n 3, 1) := by decide +kernel
theorem dL_law_1090 : decode cL_law 1090 = .ok (.iconst 0, 1) := by decide +kernel
theorem dL_law_1091 : decode cL_law 1091 = .ok (.laload, 1) := by decide +kernel
theorem dL_law_1092 : decode cL_law 1092 = .ok (.iload 6, 2) := by decide +kernel
theorem dL_law_1094 : decode cL_law 1094 = .ok (.i2l, 1) := by decide +kernel
theorem dL_law_1095 : decode cL_law 1095 = .ok (.lcmp, 1) := by decide +kernel
theorem dL_law_1096 : decode cL_law 1096 = .ok (.ifCond .eq 5, 3) := by decide +kernel
theorem dL_law_1099 : decode cL_law 1099 = .ok (.iconst 0, 1) := by decide +kernel
theorem dL_law_1100 : decode cL_law 1100 = .ok (.ireturn, 1) := by decide +kernel
theorem dL_law_1101 : decode cL_law 1101 = .ok (.goto 250, 3) := by decide +kernel
theorem dL_law_1104 : decode cL_law 1104 = .ok (.aload_n 1, 1) := by decide +kernel
theorem dL_law_1105 : decode cL_law 1105 = .ok (.aload_n 0, 1) := by decide +kernel
theorem dL_law_1106 : decode cL_law 1106 = .ok (.iload 4, 2) := by decide +kernel
theorem dL_law_1108 : decode cL_law 1108 = .ok (.iconst 1, 1) := by decide +kernel
theorem dL_law_1109 : decode cL_law 1109 = .ok (.iadd, 1) := by decide +kernel
theorem dL_law_1110 : decode cL_law 1110 = .ok (.iaload, 1) := by decide +kernel
theorem dL_law_1111 : decode cL_law 1111 = .ok (.aload_n 0, 1) := by decide +kernel
theorem dL_law_1112 : decode cL_law 1112 = .ok (.iload 4, 2) := by decide +kernel
theorem dL_law_1114 : decode cL_law 1114 = .ok (.iconst 2, 1) := by decide +kernel
theorem dL_law_1115 : decode cL_law 1115 = .ok (.iadd, 1) := by decide +kernel
theorem dL_law_1116 : decode cL_law 1116 = .ok (.iaload, 1) := by decide +kernel
theorem dL_law_1117 : decode cL_law 1117 = .ok (.aload_n 3, 1) := by decide +kernel
theorem dL_law_1118 : decode cL_law 1118 = .ok (.invokestatic 120, 3) := by decide +kernel
theorem dL_law_1121 : decode cL_law 1121 = .ok (.istore 5, 2) := by decide +kernel
theorem dL_law_1123 : decode cL_law 1123 = .ok (.aload_n 2, 1) := by decide +kernel
theorem dL_law_1124 : decode cL_law 1124 = .ok (.aload_n 0, 1) := by decide +kernel
theorem dL_law_1125 : decode cL_law 1125 = .ok (.iload 4, 2) := by decide +kernel
theorem dL_law_1127 : decode cL_law 1127 = .ok (.iconst 1, 1) := by decide +kernel
theorem dL_law_1128 : decode cL_law 1128 = .ok (.iadd, 1) := by decide +kernel
theorem dL_law_1129 : decode cL_law 1129 = .ok (.iaload, 1) := by decide +kernel
theorem dL_law_1130 : decode cL_law 1130 = .ok (.aload_n 0, 1) := by decide +kernel
theorem dL_law_1131 : decode cL_law 1131 = .ok (.iload 4, 2) := by decide +kernel
theorem dL_law_1133 : decode cL_law 1133 = .ok (.iconst 2, 1) := by decide +kernel
theorem dL_law_1134 : decode cL_law 1134 = .ok (.iadd, 1) := by decide +kernel
theorem dL_law_1135 : decode cL_law 1135 = .ok (.iaload, 1) := by decide +kernel
theorem dL_law_1136 : decode cL_law 1136 = .ok (.invokevirtual 122, 3) := by decide +kernel
theorem dL_law_1139 : decode cL_law 1139 = .ok (.istore 6, 2) := by decide +kernel
theorem dL_law_1141 : decode cL_law 1141 = .ok (.aload_n 2, 1) := by decide +kernel
theorem dL_law_1142 : decode cL_law 1142 = .ok (.invokevirtual 77, 3) := by decide +kernel
theorem dL_law_1145 : decode cL_law 1145 = .ok (.iload 5, 2) := by decide +kernel
theorem dL_law_1147 : decode cL_law 1147 = .ok (.if_icmp .eq 5, 3) := by decide +kernel
theorem dL_law_1150 : decode cL_law 1150 = .ok (.iconst 0, 1) := by decide +kernel
theorem dL_law_1151 : decode cL_law 1151 = .ok (.ireturn, 1) := by decide +kernel
theorem dL_law_1152 : decode cL_law 1152 = .ok (.iload 5, 2) := by decide +kernel
theorem dL_law_1154 : decode cL_law 1154 = .ok (.ifCond .ne 15, 3) := by decide +kernel
theorem dL_law_1157 : decode cL_law 1157 = .ok (.aload_n 3, 1) := by decide +kernel
theorem dL_law_1158 : decode cL_law 1158 = .ok (.iconst 0, 1) := by decide +kernel
theorem dL_law_1159 : decode cL_law 1159 = .ok (.laload, 1) := by decide +kernel
theorem dL_law_1160 : decode cL_law 1160 = .ok (.iload 6, 2) := by decide +kernel
theorem dL_law_1162 : decode cL_law 1162 = .ok (.i2l, 1) := by decide +kernel
theorem dL_law_1163 : decode cL_law 1163 = .ok (.lcmp, 1) := by decide +kernel
theorem dL_law_1164 : decode cL_law 1164 = .ok (.ifCond .eq 5, 3) := by decide +kernel
theorem dL_law_1167 : decode cL_law 1167 = .ok (.iconst 0, 1) := by decide +kernel
theorem dL_law_1168 : decode cL_law 1168 = .ok (.ireturn, 1) := by decide +kernel
theorem dL_law_1169 : decode cL_law 1169 = .ok (.goto 182, 3) := by decide +kernel
theorem dL_law_1172 : decode cL_law 1172 = .ok (.aload_n 1, 1) := by decide +kernel
theorem dL_law_1173 : decode cL_law 1173 = .ok (.aload_n 0, 1) := by decide +kernel
theorem dL_law_1174 : decode cL_law 1174 = .ok (.iload 4, 2) := by decide +kernel
theorem dL_law_1176 : decode cL_law 1176 = .ok (.iconst 1, 1) := by decide +kernel
theorem dL_law_1177 : decode cL_law 1177 = .ok (.iadd, 1) := by decide +kernel
theorem dL_law_1178 : decode cL_law 1178 = .ok (.iaload, 1) := by decide +kernel
theorem dL_law_1179 : decode cL_law 1179 = .ok (.aload_n 0, 1) := by decide +kernel
theorem dL_law_1180 : decode cL_law 1180 = .ok (.iload 4, 2) := by decide +kernel
theorem dL_law_1182 : decode cL_law 1182 = .ok (.iconst 2, 1) := by decide +kernel
theorem dL_law_1183 : decode cL_law 1183 = .ok (.iadd, 1) := by decide +kernel
theorem dL_law_1184 : decode cL_law 1184 = .ok (.iaload, 1) := by decide +kernel
theorem dL_law_1185 : decode cL_law 1185 = .ok (.aload_n 3, 1) := by decide +kernel
theorem dL_law_1186 : decode cL_law 1186 = .ok (.invokestatic 123, 3) := by decide +kernel
theorem dL_law_1189 : decode cL_law 1189 = .ok (.istore 5, 2) := by decide +kernel
theorem dL_law_1191 : decode cL_law 1191 = .ok (.aload_n 2, 1) := by decide +kernel
theorem dL_law_1192 : decode cL_law 1192 = .ok (.aload_n 0, 1) := by decide +kernel
theorem dL_law_1193 : decode cL_law 1193 = .ok (.iload 4, 2) := by decide +kernel
theorem dL_law_1195 : decode cL_law 1195 = .ok (.iconst 1, 1) := by decide +kernel
theorem dL_law_1196 : decode cL_law 1196 = .ok (.iadd, 1) := by decide +kernel
theorem dL_law_1197 : decode cL_law 1197 = .ok (.iaload, 1) := by decide +kernel
theorem dL_law_1198 : decode cL_law 1198 = .ok (.aload_n 0, 1) := by decide +kernel
theorem dL_law_1199 : decode cL_law 1199 = .ok (.iload 4, 2) := by decide +kernel
theorem dL_law_1201 : decode cL_law 1201 = .ok (.iconst 2, 1) := by decide +kernel
theorem dL_law_1202 : decode cL_law 1202 = .ok (.iadd, 1) := by decide +kernel
theorem dL_law_1203 : decode cL_law 1203 = .ok (.iaload, 1) := by decide +kernel
theorem dL_law_1204 : decode cL_law 1204 = .ok (.invokevirtual 125, 3) := by decide +kernel
theorem dL_law_1207 : decode cL_law 1207 = .ok (.istore 6, 2) := by decide +kernel
theorem dL_law_1209 : decode cL_law 1209 = .ok (.aload_n 2, 1) := by decide +kernel
theorem dL_law_1210 : decode cL_law 1210 = .ok (.invokevirtual 77, 3) := by decide +kernel
theorem dL_law_1213 : decode cL_law 1213 = .ok (.iload 5, 2) := by decide +kernel
theorem dL_law_1215 : decode cL_law 1215 = .ok (.if_icmp .eq 5, 3) := by decide +kernel
theorem dL_law_1218 : decode cL_law 1218 = .ok (.iconst 0, 1) := by decide +kernel
theorem dL_law_1219 : decode cL_law 1219 = .ok (.ireturn, 1) := by decide +kernel
theorem dL_law_1220 : decode cL_law 1220 = .ok (.iload 5, 2) := by decide +kernel
theorem dL_law_1222 : decode cL_law 1222 = .ok (.ifCond .ne 15, 3) := by decide +kernel
theorem dL_law_1225 : decode cL_law 1225 = .ok (.aload_n 3, 1) := by decide +kernel
theorem dL_law_1226 : decode cL_law 1226 = .ok (.iconst 0, 1) := by decide +kernel
theorem dL_law_1227 : decode cL_law 1227 = .ok (.laload, 1) := by decide +kernel
theorem dL_law_1228 : decode cL_law 1228 = .ok (.iload 6, 2) := by decide +kernel
theorem dL_law_1230 : decode cL_law 1230 = .ok (.i2l, 1) := by decide +kernel
theorem dL_law_1231 : decode cL_law 1231 = .ok (.lcmp, 1) := by decide +kernel
theorem dL_law_1232 : decode cL_law 1232 = .ok (.ifCond .eq 5, 3) := by decide +kernel
theorem dL_law_1235 : decode cL_law 1235 = .ok (.iconst 0, 1) := by decide +kernel
theorem dL_law_1236 : decode cL_law 1236 = .ok (.ireturn, 1) := by decide +kernel
theorem dL_law_1237 : decode cL_law 1237 = .ok (.goto 114, 3) := by decide +kernel
theorem dL_law_1240 : decode cL_law 1240 = .ok (.aload_n 1, 1) := by decide +kernel
theorem dL_law_1241 : decode cL_law 1241 = .ok (.aload_n 0, 1) := by decide +kernel
theorem dL_law_1242 : decode cL_law 1242 = .ok (.iload 4, 2) := by decide +kernel
theorem dL_law_1244 : decode cL_law 1244 = .ok (.iconst 1, 1) := by decide +kernel
theorem dL_law_1245 : decode cL_law 1245 = .ok (.iadd, 1) := by decide +kernel
theorem dL_law_1246 : decode cL_law 1246 = .ok (.iaload, 1) := by decide +kernel
theorem dL_law_1247 : decode cL_law 1247 = .ok (.aload_n 3, 1) := by decide +kernel
theorem dL_law_1248 : decode cL_law 1248 = .ok (.invokestatic 126, 3) := by decide +kernel
theorem dL_law_1251 : decode cL_law 1251 = .ok (.istore 5, 2) := by decide +kernel
theorem dL_law_1253 : decode cL_law 1253 = .ok (.aload_n 2, 1) := by decide +kernel
theorem dL_law_1254 : decode cL_law 1254 = .ok (.aload_n 0, 1) := by decide +kernel
theorem dL_law_1255 : decode cL_law 1255 = .ok (.iload 4, 2) := by decide +kernel
theorem dL_law_1257 : decode cL_law 1257 = .ok (.iconst 1, 1) := by decide +kernel
theorem dL_law_1258 : decode cL_law 1258 = .ok (.iadd, 1) := by decide +kernel
theorem dL_law_1259 : decode cL_law 1259 = .ok (.iaload, 1) := by decide +kernel
theorem dL_law_1260 : decode cL_law 1260 = .ok (.invokevirtual 128, 3) := by decide +kernel
theorem dL_law_1263 : decode cL_law 1263 = .ok (.istore 6, 2) := by decide +kernel
theorem dL_law_1265 : decode cL_law 1265 = .ok (.aload_n 2, 1) := by decide +kernel
theorem dL_law_1266 : decode cL_law 1266 = .ok (.invokevirtual 77, 3) := by decide +kernel
theorem dL_law_1269 : decode cL_law 1269 = .ok (.iload 5, 2) := by decide +kernel
theorem dL_law_1271 : decode cL_law 1271 = .ok (.if_icmp .eq 5, 3) := by decide +kernel
theorem dL_law_1274 : decode cL_law 1274 = .ok (.iconst 0, 1) := by decide +kernel
theorem dL_law_1275 : decode cL_law 1275 = .ok (.ireturn, 1) := by decide +kernel
theorem dL_law_1276 : decode cL_law 1276 = .ok (.iload 5, 2) := by decide +kernel
theorem dL_law_1278 : decode cL_law 1278 = .ok (.ifCond .ne 15, 3) := by decide +kernel
theorem dL_law_1281 : decode cL_law 1281 = .ok (.aload_n 3, 1) := by decide +kernel
theorem dL_law_1282 : decode cL_law 1282 = .ok (.iconst 0, 1) := by decide +kernel
theorem dL_law_1283 : decode cL_law 1283 = .ok (.laload, 1) := by decide +kernel
theorem dL_law_1284 : decode cL_law 1284 = .ok (.iload 6, 2) := by decide +kernel
theorem dL_law_1286 : decode cL_law 1286 = .ok (.i2l, 1) := by decide +kernel
theorem dL_law_1287 : decode cL_law 1287 = .ok (.lcmp, 1) := by decide +kernel
theorem dL_law_1288 : decode cL_law 1288 = .ok (.ifCond .eq 5, 3) := by decide +kernel
theorem dL_law_1291 : decode cL_law 1291 = .ok (.iconst 0, 1) := by decide +kernel
theorem dL_law_1292 : decode cL_law 1292 = .ok (.ireturn, 1) := by decide +kernel
theorem dL_law_1293 : decode cL_law 1293 = .ok (.goto 58, 3) := by decide +kernel
theorem dL_law_1296 : decode cL_law 1296 = .ok (.aload_n 1, 1) := by decide +kernel
theorem dL_law_1297 : decode cL_law 1297 = .ok (.invokevirtual 129, 3) := by decide +kernel
theorem dL_law_1300 : decode cL_law 1300 = .ok (.dstore 5, 2) := by decide +kernel
theorem dL_law_1302 : decode cL_law 1302 = .ok (.aload_n 2, 1) := by decide +kernel
theorem dL_law_1303 : decode cL_law 1303 = .ok (.invokevirtual 133, 3) := by decide +kernel
theorem dL_law_1306 : decode cL_law 1306 = .ok (.dstore 7, 2) := by decide +kernel
theorem dL_law_1308 : decode cL_law 1308 = .ok (.dload 5, 2) := by decide +kernel
theorem dL_law_1310 : decode cL_law 1310 = .ok (.dload 7, 2) := by decide +kernel
theorem dL_law_1312 : decode cL_law 1312 = .ok (.dcmp .l, 1) := by decide +kernel
theorem dL_law_1313 : decode cL_law 1313 = .ok (.ifCond .eq 21, 3) := by decide +kernel
theorem dL_law_1316 : decode cL_law 1316 = .ok (.dload 5, 2) := by decide +kernel
theorem dL_law_1318 : decode cL_law 1318 = .ok (.dload 5, 2) := by decide +kernel
theorem dL_law_1320 : decode cL_law 1320 = .ok (.dcmp .l, 1) := by decide +kernel
theorem dL_law_1321 : decode cL_law 1321 = .ok (.ifCond .eq 11, 3) := by decide +kernel
theorem dL_law_1324 : decode cL_law 1324 = .ok (.dload 7, 2) := by decide +kernel
theorem dL_law_1326 : decode cL_law 1326 = .ok (.dload 7, 2) := by decide +kernel
theorem dL_law_1328 : decode cL_law 1328 = .ok (.dcmp .l, 1) := by decide +kernel
theorem dL_law_1329 : decode cL_law 1329 = .ok (.ifCond .ne 5, 3) := by decide +kernel
theorem dL_law_1332 : decode cL_law 1332 = .ok (.iconst 0, 1) := by decide +kernel
theorem dL_law_1333 : decode cL_law 1333 = .ok (.ireturn, 1) := by decide +kernel
theorem dL_law_1334 : decode cL_law 1334 = .ok (.goto 17, 3) := by decide +kernel
theorem dL_law_1337 : decode cL_law 1337 = .ok (.aload_n 1, 1) := by decide +kernel
theorem dL_law_1338 : decode cL_law 1338 = .ok (.invokevirtual 134, 3) := by decide +kernel
theorem dL_law_1341 : decode cL_law 1341 = .ok (.aload_n 2, 1) := by decide +kernel
theorem dL_law_1342 : decode cL_law 1342 = .ok (.invokevirtual 138, 3) := by decide +kernel
theorem dL_law_1345 : decode cL_law 1345 = .ok (.lcmp, 1) := by decide +kernel
theorem dL_law_1346 : decode cL_law 1346 = .ok (.ifCond .eq 5, 3) := by decide +kernel
theorem dL_law_1349 : decode cL_law 1349 = .ok (.iconst 0, 1) := by decide +kernel
theorem dL_law_1350 : decode cL_law 1350 = .ok (.ireturn, 1) := by decide +kernel
theorem dL_law_1351 : decode cL_law 1351 = .ok (.iinc 4 5, 3) := by decide +kernel
theorem dL_law_1354 : decode cL_law 1354 = .ok (.goto (-1331), 3) := by decide +kernel
theorem dL_law_1357 : decode cL_law 1357 = .ok (.iconst 1, 1) := by decide +kernel
theorem dL_law_1358 : decode cL_law 1358 = .ok (.ireturn, 1) := by decide +kernel
abbrev vwCl : List vw_C := [(RX0, TX0, 4), (RX1, TX1, 5), (RX2, TX2, 1), (RX3, TX3, 3), (RX4, TX4, 7), (RX5, TX5, 14)]
