theorem lg_cmp_eq0 {x y : Int64} : lg_cmp x y = 0 ↔ x = y := lg_cmp_eq x y
section LC
variable {p : Program} {l : Launch} {e : Env} {R : Room} {s : State} {m : MethodId} {args : Array Value} {below : List Frame} {meth : Method} {c : Code} {H : Heap} {locs : List Loc} {cells slots : Nat} {Q : State → Prop}
variable {cc : ByteArray} {pc nL : Nat} {ls : Array Slot} {rest : List Value} {Ts : List Cond} {own : String}
theorem r_ladd (S : CallFix p m c cc nL s args Ts own) {x y z : Int64} (hd : decode cc pc = .ok (.ladd, 1)) (hz : x + y = z)
    (k : W p l e R s m args below meth c H locs cells slots Q (F0 m (pc + 1) ls (.long z :: rest))) : W p l e R s m args below meth c H locs cells slots Q (F0 m pc ls (.long y :: .long x :: rest)) := lv_ladd S.1 S.2.1 hd (by rw [hz]; exact k)
theorem r_lmul (S : CallFix p m c cc nL s args Ts own) {x y z : Int64} (hd : decode cc pc = .ok (.lmul, 1)) (hz : x * y = z)
    (k : W p l e R s m args below meth c H locs cells slots Q (F0 m (pc + 1) ls (.long z :: rest))) : W p l e R s m args below meth c H locs cells slots Q (F0 m pc ls (.long y :: .long x :: rest)) := lv_lmul S.1 S.2.1 hd (by rw [hz]; exact k)
theorem r_lcmp_eq (S : CallFix p m c cc nL s args Ts own) {x y : Int64} {off : Int} {tgt : Nat} (hd : decode cc pc = .ok (.lcmp, 1)) (hd2 : decode cc (pc + 1) = .ok (.ifCond .eq off, 3)) (ht : ((pc + 1 : Nat) : Int) + off = (tgt : Int))
    (kt : x = y → W p l e R s m args below meth c H locs cells slots Q (F0 m tgt ls rest)) (kf : x ≠ y → W p l e R s m args below meth c H locs cells slots Q (F0 m (pc + 4) ls rest)) : W p l e R s m args below meth c H locs cells slots Q (F0 m pc ls (.long y :: .long x :: rest)) := by
  refine W.lcmp S.1 S.2.1 hd ?_
  refine lv_if_eq S.1 S.2.1 hd2 ht (fun h => kt ?_) (fun h => kf ?_)
  · exact lg_cmp_eq0.mp h
  · exact fun q => h (lg_cmp_eq0.mpr q)
theorem r_lcmp_ne (S : CallFix p m c cc nL s args Ts own) {x y : Int64} {off : Int} {tgt : Nat} (hd : decode cc pc = .ok (.lcmp, 1)) (hd2 : decode cc (pc + 1) = .ok (.ifCond .ne off, 3)) (ht : ((pc + 1 : Nat) : Int) + off = (tgt : Int))
    (kt : x ≠ y → W p l e R s m args below meth c H locs cells slots Q (F0 m tgt ls rest)) (kf : x = y → W p l e R s m args below meth c H locs cells slots Q (F0 m (pc + 4) ls rest)) : W p l e R s m args below meth c H locs cells slots Q (F0 m pc ls (.long y :: .long x :: rest)) := by
  refine W.lcmp S.1 S.2.1 hd ?_
  refine lv_if_ne S.1 S.2.1 hd2 ht (fun h => kt ?_) (fun h => kf ?_)
  · exact fun q => h (lg_cmp_eq0.mpr q)
  · exact lg_cmp_eq0.mp h
end LC
