def exN : List String := ["java/lang/RuntimeException", "java/lang/Exception"]
section TH
variable {p : Program} {l : Launch} {e : Env} {R : Room} {s : State} {m : MethodId} {args : Array Value} {below : List Frame} {meth : Method} {c : Code} {H : Heap} {locs : List Loc} {cells slots : Nat} {Q : State → Prop}
variable {cc : ByteArray} {pc nL : Nat} {ls : Array Slot} {rest : List Value} {Ts : List Cond} {A : Nat → Prop} {D : va_G} {tys : List (ClassId × FieldType)} {Z : Nat → Nat} {ws : va_W}
/-- throw new X(text), in a method without a table: the world as it was -/
theorem r_throw (S : CallFix p m c cc nL s args Ts RX4) (hfl : l.stackTraces = false) (hex : ∀ x ∈ c.exceptionTable.toList, False) (hlk : meth.locks = false) (hK : va_K D vwCl tys s) (hP : va_P D vwCl ws H) (hD : va_D A ws) (hS : va_S A s.heap H locs) (hZ : Stat Z A s s.heap) (hsz : ls.size = nL) {ik is ic mc ms : Nat} {text : String} (X : String) (hX : X ∈ castTab) (hfit : Bundle.fit X = true) (hk : Cond.classLink RX4 ik X ∈ Ts) (hini : Cond.initialized X ∈ Ts) (hstr : (is, text) ∈ strTab) (hf : ∀ w ∈ (vx_atS RX4 ic X exN).filter goodWord, w ∈ Ts) (h2 : ∀ w ∈ (vx_atS RX4 ic X exN).filter (fun w => !goodWord w), w ∈ Cond.castable X X :: declTab.map Cond.declares) (hgood : ∀ w ∈ Cond.classLink RX4 ik X :: Cond.initialized X :: vx_atS RX4 ic X exN, vx_ot w = true)
    (d0 : decode cc pc = .ok (.new ik, 3)) (d3 : decode cc (pc + 3) = .ok (.dup, 1)) (d4 : decode cc (pc + 4) = .ok (.ldc is, 2)) (d6 : decode cc (pc + 6) = .ok (.invokespecial ic, 3)) (d9 : decode cc (pc + 9) = .ok (.athrow, 1)) (hRf : 5 < R.frames) (hRl : (rest.map fun v => v.category).sum + 82 ≤ R.locals) (hRc : cells + 1 ≤ R.cells) (hRs : slots + 6 ≤ R.slots) (hc : cells + 1 ≤ mc) (hs : slots + 6 ≤ ms) {Qc : Array Value → State → Outcome → State → Prop} {cond : String → Prop} (hcond : cond X) :
    W p l e R s m args below meth c H locs cells slots (vx_MQ below Qc (vx_X (fun (_ : Unit) => True) (fun (E : String) (_ : Unit) t => cond E ∧ aftW D tys ws A t) A) args s mc ms A) (F0 m pc ls rest) := by
  obtain ⟨sa, hsa⟩ := hZ.2.2.2.2.2.2.1 (is, text) hstr
  have hat : ∀ w ∈ vx_atS RX4 ic X exN, w.before args s = true := by
    refine vx_hat (fun w hw => S.2.2.2.2 w (hf w hw)) h2 (fun w hw => ?_)
    rcases List.mem_cons.mp hw with rfl | hw
    · exact va_Nw.use rfl (hZ.2.2.2.2.2.2.2.2.2.1 X hX)
    · obtain ⟨q, hq, rfl⟩ := List.mem_map.mp hw
      exact va_Nw.use rfl (hZ.2.2.2.2.2.2.2.2.2.2.2 q hq)
  refine vx_throwS (cls := X) (names := exN) (text := text) (ik := ik) (is := is) (ic := ic) (sa := sa) (A := A) (cc := cc) S.1 S.2.1 hfl S.2.2.2.1 hfit (by decide +kernel) (S.2.2.2.2 _ hk) (S.2.2.2.2 _ hini) hsa hat hgood hZ.2.2.2.2.2.1.1 hZ.2.2.2.2.2.1.2 hS (by rw [hsz]; exact S.2.2.1.symm) d0 d3 d4 d6 d9 (fun x hx => absurd (hex x hx) (fun z => z)) hRf hRl hRc hRs hlk (fun t hv hz hq => ?_) hS.2.2 hc hs
  refine ⟨(), trivial, ⟨hcond, hP.kept (fun k q hk => hq q.1 ((hP k q hk).lt)), va_K.moved hv hK, hD⟩, ?_, ?_⟩
  · exact Nat.le_trans hS.1 hz
  · intro q h1 h3
    rw [hq q (Nat.lt_of_lt_of_le h1 hS.1)]
    exact hS.2.1 q h1 h3
end TH
