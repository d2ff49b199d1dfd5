theorem lwSt_next {D : va_G} {A : Nat → Prop} {cI cJ : ClassId} {so b ak ah b2 ak2 ah2 wo fa xa ya lo lca lra lia lta po pw ou mo mna mkp mot mlr mlk mwe mmk mln t : Nat} {H : Heap} (h : lwSt D A cI cJ so b ak ah b2 ak2 ah2 wo fa xa ya lo lca lra lia lta po pw ou mo mna mkp mot mlr mlk mwe mmk mln t H) : lwSt D A cI cJ so b ak ah b2 ak2 ah2 wo fa xa ya lo lca lra lia lta po pw ou mo mna mkp mot mlr mlk mwe mmk mln (t + 1) H := by
  obtain ⟨w, h, K, B, w2, h2, K2, B2, F, QX, QY, n, LX, LY, LL, LA, PW, sg, hz, OU, th, N, KP, OT, LR, LK, WE, MK, LN, hP, hD, hww, hhh, hKK, hTl, hn, hLb, hM, hLm, hsg, hhz⟩ := h
  exact ⟨w, h, K, B, w2, h2, K2, B2, F, QX, QY, n, LX, LY, LL, LA, PW, sg, hz, OU, th, N, KP, OT, LR, LK, WE, MK, LN, hP, hD, hww, hhh, hKK, hTl, hn, hLb, hM, hLm, by omega, by omega⟩
set_option maxHeartbeats 4000000 in
set_option maxRecDepth 100000 in
/-- the law's loop -/
theorem law_loop {p : Program} {l : Launch} (hfl : l.stackTraces = false) {e : Env} {s : State} {m : MethodId} {below : List Frame} {meth : Method} {c : Code} {Q : State → Prop} {D : va_G} {cI cJ : ClassId} {Z : Nat → Nat} {scr L : Nat} {xs : Nat → Int32} {A : Nat → Prop} {so b ak ah b2 ak2 ah2 wo fa xa ya lo lca lra lia lta po pw ou mo mna mkp mot mlr mlk mwe mmk mln : Nat} (hLL : L ≤ 2560) (S : CallFix p m c cL_law 9 s #[Value.ref scr] wsL_law RL) (hA : ∀ q, s.heap.size ≤ q → A q) (hX : va_X scr L xs s s.heap) (hbl : scr < s.heap.size) (hbA : ¬ A scr) (hK : va_K D vwCl [(cI, .int), (cJ, .long)] s) (hZ : Stat Z A s s.heap)
    (kend : ∀ (H : Heap) (locs : List Loc) (ls : Array Slot) (cells slots : Nat), cells ≤ 1075 → slots ≤ 23317 → va_S A s.heap H locs → W p l e (rmk 10 1075 23317 364) s m #[Value.ref scr] below meth c H locs cells slots Q (F0 m 1357 ls [])) :
    ∀ (fu t : Nat), 5 * t ≤ L → L - 5 * t < fu → ∀ (H : Heap) (locs : List Loc) (ls : Array Slot), lwSt D A cI cJ so b ak ah b2 ak2 ah2 wo fa xa ya lo lca lra lia lta po pw ou mo mna mkp mot mlr mlk mwe mmk mln t H → va_S A s.heap H locs → lv_has ls 9 [(0, .ref scr), (1, .ref so), (2, .ref mo), (3, .ref ou), (4, .int (iI ((5 * t : Nat) : Int)))] → W p l e (rmk 10 1075 23317 364) s m #[Value.ref scr] below meth c H locs (28 + t) (14987 + 6 * t) Q (F0 m 23 ls []) := by
  intro fu
  induction fu with
  | zero => intro t _ hmu; exact absurd hmu (Nat.not_lt_zero _)
  | succ fu ih =>
    intro t ht0 hmu H locs ls hI hS hl
    refine lv_iload S.1 S.2.1 dL_law_23 (lv_at hl 4 rfl) ?_
    refine lv_aload_n S.1 S.2.1 dL_law_25 rfl (lv_at hl 0 rfl) ?_
    refine va_slen S.1 S.2.1 hX hbl hbA hS dL_law_26 ?_
    rw [show Int32.ofNat L = iI ((L : Nat) : Int) from Int32.ofInt_eq_ofNat.symm]
    refine r_iconst S dL_law_27 ?_
    refine r_isub S dL_law_28 (z := ((L : Nat) : Int) - 5) rfl ?_
    refine r_icmp_gt S (tgt := 1357) dL_law_29 (by decide) ⟨by omega, by omega⟩ ⟨by omega, by omega⟩ (fun cgt => ?_) (fun cle => ?_)
    · exact kend _ _ _ _ _ (by omega) (by omega) hS
    · have ht : 5 * t + 5 ≤ L := by omega
      obtain ⟨x0, hx0, ex0⟩ := iI_ex (xs (5 * t))
      refine lv_aload_n S.1 S.2.1 dL_law_32 rfl (lv_at hl 0 rfl) ?_
      refine lv_iload S.1 S.2.1 dL_law_33 (lv_at hl 4 rfl) ?_
      refine r_sld S hX hbl hbA hS (5 * t) rfl (by omega) (by omega) ex0 dL_law_35 ?_
      refine r_bipush S dL_law_36 (by decide) ?_
      refine lv_iand S.1 S.2.1 dL_law_38 ?_
      obtain ⟨v, hv, ev⟩ := iI_ex (iI x0 &&& iI 31)
      rw [ev]
      have kk : ∀ (H : Heap) (locs : List Loc) (ls : Array Slot), lwSt D A cI cJ so b ak ah b2 ak2 ah2 wo fa xa ya lo lca lra lia lta po pw ou mo mna mkp mot mlr mlk mwe mmk mln (t + 1) H → va_S A s.heap H locs → lv_has ls 9 [(0, .ref scr), (1, .ref so), (2, .ref mo), (3, .ref ou), (4, .int (iI ((5 * t : Nat) : Int)))] → W p l e (rmk 10 1075 23317 364) s m #[Value.ref scr] below meth c H locs (28 + (t + 1)) (14987 + 6 * (t + 1)) Q (F0 m 1351 ls []) := by
        intro H locs ls hI hS hl
        refine r_iinc S (z := ((5 * (t + 1) : Nat) : Int)) (k0 := 4) (lv' := [(4, .int (iI ((5 * (t + 1) : Nat) : Int))), (0, .ref scr), (1, .ref so), (2, .ref mo), (3, .ref ou)]) dL_law_1351 hl rfl (by omega) (by decide) rfl (fun ls hl => ?_)
        refine r_goto S (tgt := 23) dL_law_1354 (by decide) ?_
        exact ih (t + 1) (by omega) (by omega) _ _ _ hI hS (lv_sub hl [1, 2, 3, 4, 0] rfl)
      by_cases cs : 0 ≤ v ∧ v ≤ 17
      · rcases (show v = 0 ∨ v = 1 ∨ v = 2 ∨ v = 3 ∨ v = 4 ∨ v = 5 ∨ v = 6 ∨ v = 7 ∨ v = 8 ∨ v = 9 ∨ v = 10 ∨ v = 11 ∨ v = 12 ∨ v = 13 ∨ v = 14 ∨ v = 15 ∨ v = 16 ∨ v = 17 by omega) with cv | cv | cv | cv | cv | cv | cv | cv | cv | cv | cv | cv | cv | cv | cv | cv | cv | cv
        · refine r_tsIn S (tgt := 124) 0 dL_law_39 hv (by omega) (by omega) (by omega) rfl (by decide) ?_
          exact cs_setBoard hfl ht hLL S hA hX hbl hbA hK hZ hI hS hl kk
        · refine r_tsIn S (tgt := 192) 1 dL_law_39 hv (by omega) (by omega) (by omega) rfl (by decide) ?_
          exact cs_set hfl ht hLL S hA hX hbl hbA hK hZ hI hS hl kk
        · refine r_tsIn S (tgt := 272) 2 dL_law_39 hv (by omega) (by omega) (by omega) rfl (by decide) ?_
          exact cs_line hfl ht hLL S hA hX hbl hbA hK hZ hI hS hl kk
        · refine r_tsIn S (tgt := 364) 3 dL_law_39 hv (by omega) (by omega) (by omega) rfl (by decide) ?_
          exact cs_ring hfl ht hLL S hA hX hbl hbA hK hZ hI hS hl kk
        · refine r_tsIn S (tgt := 456) 4 dL_law_39 hv (by omega) (by omega) (by omega) rfl (by decide) ?_
          exact cs_stamp hfl ht hLL S hA hX hbl hbA hK hZ hI hS hl kk
        · refine r_tsIn S (tgt := 548) 5 dL_law_39 hv (by omega) (by omega) (by omega) rfl (by decide) ?_
          exact cs_spark hfl ht hLL S hA hX hbl hbA hK hZ hI hS hl kk
        · refine r_tsIn S (tgt := 628) 6 dL_law_39 hv (by omega) (by omega) (by omega) rfl (by decide) ?_
          exact cs_lamp hfl ht hLL S hA hX hbl hbA hK hZ hI hS hl kk
        · refine r_tsIn S (tgt := 696) 7 dL_law_39 hv (by omega) (by omega) (by omega) rfl (by decide) ?_
          exact cs_pass hfl ht hLL S hA hX hbl hbA hK hZ hI hS hl kk
        · refine r_tsIn S (tgt := 752) 8 dL_law_39 hv (by omega) (by omega) (by omega) rfl (by decide) ?_
          exact cs_told hfl ht hLL S hA hX hbl hbA hK hZ hI hS hl kk
        · refine r_tsIn S (tgt := 832) 9 dL_law_39 hv (by omega) (by omega) (by omega) rfl (by decide) ?_
          exact cs_about hfl ht hLL S hA hX hbl hbA hK hZ hI hS hl kk
        · refine r_tsIn S (tgt := 900) 10 dL_law_39 hv (by omega) (by omega) (by omega) rfl (by decide) ?_
          exact cs_count hfl ht hLL S hA hX hbl hbA hK hZ hI hS hl kk
        · refine r_tsIn S (tgt := 956) 11 dL_law_39 hv (by omega) (by omega) (by omega) rfl (by decide) ?_
          exact cs_way hfl ht hLL S hA hX hbl hbA hK hZ hI hS hl kk
        · refine r_tsIn S (tgt := 1048) 12 dL_law_39 hv (by omega) (by omega) (by omega) rfl (by decide) ?_
          exact cs_period hfl ht hLL S hA hX hbl hbA hK hZ hI hS hl kk
        · refine r_tsIn S (tgt := 1104) 13 dL_law_39 hv (by omega) (by omega) (by omega) rfl (by decide) ?_
          exact cs_until hfl ht hLL S hA hX hbl hbA hK hZ hI hS hl kk
        · refine r_tsIn S (tgt := 1172) 14 dL_law_39 hv (by omega) (by omega) (by omega) rfl (by decide) ?_
          exact cs_foresee hfl ht hLL S hA hX hbl hbA hK hZ hI hS hl kk
        · refine r_tsIn S (tgt := 1240) 15 dL_law_39 hv (by omega) (by omega) (by omega) rfl (by decide) ?_
          exact cs_advise hfl ht hLL S hA hX hbl hbA hK hZ hI hS hl kk
        · refine r_tsIn S (tgt := 1296) 16 dL_law_39 hv (by omega) (by omega) (by omega) rfl (by decide) ?_
          exact cs_mean hfl ht hLL S hA hX hbl hbA hK hZ hI hS hl kk
        · refine r_tsIn S (tgt := 1337) 17 dL_law_39 hv (by omega) (by omega) (by omega) rfl (by decide) ?_
          exact cs_digest hfl ht hLL S hA hX hbl hbA hK hZ hI hS hl kk
      · refine r_tsOut S (tgt := 1351) dL_law_39 hv (by omega) (by decide) ?_
        refine W.widen (k := 28 + (t + 1)) (n := 14987 + 6 * (t + 1)) (by omega) (by omega) ?_
        exact kk _ _ _ (lwSt_next hI) hS hl
