/-- numbers added up -/
def sgm (f : Nat → Nat) : Nat → Nat
  | 0 => 0
  | n + 1 => sgm f n + f n
theorem sgm_cong {f f' : Nat → Nat} : ∀ n, (∀ k, k < n → f k = f' k) → sgm f n = sgm f' n
  | 0, _ => rfl
  | n + 1, h => by
    show sgm f n + f n = sgm f' n + f' n
    rw [sgm_cong n (fun k hk => h k (by omega)), h n (by omega)]
theorem sgm_z {f : Nat → Nat} : ∀ n, (∀ k, k < n → f k = 0) → sgm f n = 0
  | 0, _ => rfl
  | n + 1, h => by
    show sgm f n + f n = 0
    rw [sgm_z n (fun k hk => h k (by omega)), h n (by omega)]
theorem sgm_one {f : Nat → Nat} {j : Nat} : ∀ n, j < n → (∀ k, k < n → k ≠ j → f k = 0) → sgm f n = f j
  | 0, h, _ => absurd h (Nat.not_lt_zero j)
  | n + 1, h, z => by
    show sgm f n + f n = f j
    by_cases q : j = n
    · subst q
      rw [sgm_z j (fun k hk => z k (by omega) (by omega)), Nat.zero_add]
    · rw [sgm_one n (by omega) (fun k hk hj => z k (by omega) hj), z n (by omega) (fun e => q e.symm), Nat.add_zero]
theorem sgm_add (f f' : Nat → Nat) : ∀ n, sgm (fun k => f k + f' k) n = sgm f n + sgm f' n
  | 0 => rfl
  | n + 1 => by
    show sgm (fun k => f k + f' k) n + (f n + f' n) = sgm f n + f n + (sgm f' n + f' n)
    rw [sgm_add f f' n]
    omega
theorem sgm_swap (f : Nat → Nat → Nat) (m : Nat) : ∀ n, sgm (fun i => sgm (fun j => f i j) m) n = sgm (fun j => sgm (fun i => f i j) n) m
  | 0 => (sgm_z m (fun _ _ => rfl)).symm
  | n + 1 => by
    show sgm (fun i => sgm (fun j => f i j) m) n + sgm (fun j => f n j) m = sgm (fun j => sgm (fun i => f i j) n + f n j) m
    rw [sgm_add (fun j => sgm (fun i => f i j) n) (fun j => f n j), sgm_swap f m n]
theorem cntI_sgm (f : Nat → Int) (v : Int) : ∀ n, cntI f v n = sgm (fun k => if f k = v then 1 else 0) n
  | 0 => rfl
  | n + 1 => by rw [cntI_s, cntI_sgm f v n]; rfl
def tie (w h : Nat) (K : Nat → Int) (c k d : Nat) : Nat := if K k = 2 ∧ cellZ w h (((k % w : Nat) : Int) + dX d) (((k / w : Nat) : Int) + dY d) = (c : Int) then 1 else 0
theorem besZ_sgm (w h : Nat) (K : Nat → Int) (c : Nat) : ∀ n, besZ w h K c n = sgm (fun k => sgm (fun d => tie w h K c k d) 8) n
  | 0 => rfl
  | n + 1 => by
    rw [bes_s, besZ_sgm w h K c n]
    show _ = sgm (fun k => sgm (fun d => tie w h K c k d) 8) n + sgm (fun d => tie w h K c n d) 8
    have e : (if K n = 2 then nbN w h ((n % w : Nat) : Int) ((n / w : Nat) : Int) c 8 else 0) = sgm (fun d => tie w h K c n d) 8 := by
      by_cases q : K n = 2
      · rw [if_pos q, nbN, cntI_sgm]
        refine sgm_cong 8 (fun d _ => ?_)
        unfold tie
        by_cases z : cellZ w h (((n % w : Nat) : Int) + dX d) (((n / w : Nat) : Int) + dY d) = (c : Int)
        · rw [if_pos z, if_pos ⟨q, z⟩]
        · rw [if_neg z, if_neg (fun u => z u.2)]
      · rw [if_neg q]
        exact (sgm_z 8 (fun d _ => if_neg (fun z => q z.1))).symm
    rw [e]
theorem nb_iff {w h k c : Nat} {a b : Int} (hc : c < w * h) : cellZ w h (((k % w : Nat) : Int) + a) (((k / w : Nat) : Int) + b) = (c : Int) ↔ ((k % w : Nat) : Int) = ((c % w : Nat) : Int) + -a ∧ ((k / w : Nat) : Int) = ((c / w : Nat) : Int) + -b := by
  obtain ⟨hi, hcc⟩ := cell_of hc
  have h0 := cellZ_inB hi
  have ec : cellZ w h ((c % w : Nat) : Int) ((c / w : Nat) : Int) = (c : Int) := by omega
  constructor
  · intro e
    have hj : inB w h (((k % w : Nat) : Int) + a) (((k / w : Nat) : Int) + b) := inB_cell (by omega)
    have e1 := (cellZ_inB hj).1
    obtain ⟨e2, e3⟩ := idx_inj hj.1 hj.2.1 hi.1 hi.2.1 hj.2.2.1 hi.2.2.1 (by rw [← e1, e, ← h0.1, ec])
    omega
  · rintro ⟨e1, e2⟩
    rw [e1, e2, Int.neg_add_cancel_right, Int.neg_add_cancel_right, ec]
theorem opp_d : ∀ d, d < 8 → dX ((d + 4) % 8) = -dX d ∧ dY ((d + 4) % 8) = -dY d := by decide
theorem sgm_opp (F : Int → Int → Nat) : sgm (fun d => F (-dX d) (-dY d)) 8 = sgm (fun d => F (dX d) (dY d)) 8 := by
  have e : sgm (fun d => F (-dX d) (-dY d)) 8 = sgm (fun d => F (dX ((d + 4) % 8)) (dY ((d + 4) % 8))) 8 := sgm_cong 8 (fun d hd => by rw [(opp_d d hd).1, (opp_d d hd).2])
  rw [e]
  show 0 + F (dX 4) (dY 4) + F (dX 5) (dY 5) + F (dX 6) (dY 6) + F (dX 7) (dY 7) + F (dX 0) (dY 0) + F (dX 1) (dY 1) + F (dX 2) (dY 2) + F (dX 3) (dY 3) = 0 + F (dX 0) (dY 0) + F (dX 1) (dY 1) + F (dX 2) (dY 2) + F (dX 3) (dY 3) + F (dX 4) (dY 4) + F (dX 5) (dY 5) + F (dX 6) (dY 6) + F (dX 7) (dY 7)
  omega
/-- counting from the heads is counting around the cells -/
theorem bes_ar {w h : Nat} {K : Nat → Int} (hw : 3 ≤ w ∧ w ≤ 10) (hh : 3 ≤ h ∧ h ≤ 10) {c : Nat} (hc : c < w * h) : besZ w h K c (w * h) = arK w h K ((c % w : Nat) : Int) ((c / w : Nat) : Int) 2 := by
  have hs := (size_le hw hh).2
  rw [besZ_sgm, sgm_swap]
  have key : ∀ d, d < 8 → sgm (fun k => tie w h K c k d) (w * h) = if vK w h K (((c % w : Nat) : Int) + -dX d) (((c / w : Nat) : Int) + -dY d) = 2 then 1 else 0 := by
    intro d hd
    by_cases z : inB w h (((c % w : Nat) : Int) + -dX d) (((c / w : Nat) : Int) + -dY d)
    · obtain ⟨h1, h2, h3⟩ := cell_mod z.1 z.2.1 z.2.2.1 z.2.2.2
      generalize (cellZ w h (((c % w : Nat) : Int) + -dX d) (((c / w : Nat) : Int) + -dY d)).toNat = j at h1 h2 h3
      have hv : vK w h K (((c % w : Nat) : Int) + -dX d) (((c / w : Nat) : Int) + -dY d) = K j := by
        rw [← h2, ← h3]
        exact vK_at hs h1
      rw [sgm_one (j := j) (w * h) h1 ?_, hv]
      · unfold tie
        by_cases q : K j = 2
        · rw [if_pos q, if_pos ⟨q, (nb_iff hc).mpr ⟨h2, h3⟩⟩]
        · rw [if_neg q, if_neg (fun u => q u.1)]
      · intro k hk hne
        refine if_neg (fun u => hne ?_)
        obtain ⟨e1, e2⟩ := (nb_iff hc).mp u.2
        have e3 : k % w = j % w := by
          rw [← h2] at e1
          exact Int.ofNat.inj e1
        have e4 : k / w = j / w := by
          rw [← h3] at e2
          exact Int.ofNat.inj e2
        rw [← Nat.div_add_mod k w, ← Nat.div_add_mod j w, e3, e4]
    · have e : cellZ w h (((c % w : Nat) : Int) + -dX d) (((c / w : Nat) : Int) + -dY d) = -1 := if_neg z
      have hv : vK w h K (((c % w : Nat) : Int) + -dX d) (((c / w : Nat) : Int) + -dY d) = 0 := by
        rw [vK, e]
        exact kindZ_out (Or.inl (by decide))
      rw [if_neg (by rw [hv]; decide)]
      refine sgm_z _ (fun k hk => if_neg (fun u => z ?_))
      obtain ⟨e1, e2⟩ := (nb_iff hc).mp u.2
      rw [← e1, ← e2]
      exact (cell_of hk).1
  rw [sgm_cong 8 key]
  unfold arK
  rw [cntI_sgm]
  exact sgm_opp (fun a b => if vK w h K (((c % w : Nat) : Int) + a) (((c / w : Nat) : Int) + b) = 2 then 1 else 0)
/-- a packed word as a whole number -/
def pkN (K : Nat → Int) (f : Nat) : Nat → Nat
  | 0 => 0
  | n + 1 => pkN K f n * 4 + (K (f + n)).toNat
theorem pkN_lt {K : Nat → Int} {f : Nat} : ∀ n, (∀ k, k < n → 0 ≤ K (f + k) ∧ K (f + k) ≤ 3) → pkN K f n < 4 ^ n
  | 0, _ => Nat.one_pos
  | n + 1, h => by
    have h1 := pkN_lt n (fun k hk => h k (by omega))
    have h2 := h n (by omega)
    show pkN K f n * 4 + (K (f + n)).toNat < 4 ^ n * 4
    omega
theorem pkN_inj {K K2 : Nat → Int} {f : Nat} : ∀ n, (∀ k, k < n → 0 ≤ K (f + k) ∧ K (f + k) ≤ 3) → (∀ k, k < n → 0 ≤ K2 (f + k) ∧ K2 (f + k) ≤ 3) → pkN K f n = pkN K2 f n → ∀ k, k < n → K (f + k) = K2 (f + k)
  | 0, _, _, _ => fun k hk => absurd hk (Nat.not_lt_zero k)
  | n + 1, h, h2, e => by
    have a := h n (by omega)
    have b := h2 n (by omega)
    have e1 : pkN K f n * 4 + (K (f + n)).toNat = pkN K2 f n * 4 + (K2 (f + n)).toNat := e
    intro k hk
    by_cases q : k = n
    · rw [q]; omega
    · exact pkN_inj n (fun k hk => h k (by omega)) (fun k hk => h2 k (by omega)) (by omega) k (by omega)
theorem sh_or {x : Int64} {v : Int} {n : Nat} (hx : x.toBitVec.toNat = n) (hn : n < 4 ^ 30) (hv : 0 ≤ v ∧ v ≤ 3) : ((x <<< ((iI 2).toInt64 &&& 63)) ||| (iI v).toInt64).toBitVec.toNat = n * 4 + v.toNat := by
  have e1 : ((iI 2).toInt64 &&& 63) = 2 := by decide
  have e2 : ((2 : Int64).toBitVec.smod 64) = 2#64 := by decide
  have e3 : ((iI v).toInt64).toBitVec.toNat = v.toNat := by
    rcases (show v = 0 ∨ v = 1 ∨ v = 2 ∨ v = 3 by omega) with e | e | e | e <;> subst e <;> decide
  have e4 : (2#64).toNat = 2 := by decide
  rw [e1, Int64.toBitVec_or, Int64.toBitVec_shiftLeft, BitVec.toNat_or, e2, BitVec.shiftLeft_eq', BitVec.toNat_shiftLeft, hx, e3, e4]
  have e5 : n <<< 2 % 2 ^ 64 = n <<< 2 := by
    rw [Nat.shiftLeft_eq]
    exact Nat.mod_eq_of_lt (by omega)
  rw [e5, ← Nat.shiftLeft_add_eq_or_of_lt (show v.toNat < 2 ^ 2 by omega), Nat.shiftLeft_eq]
theorem pkZ_N {K : Nat → Int} {f : Nat} : ∀ n, n ≤ 25 → (∀ k, k < n → 0 ≤ K (f + k) ∧ K (f + k) ≤ 3) → (pkZ K f n).toBitVec.toNat = pkN K f n
  | 0, _, _ => by
    show (0 : Int64).toBitVec.toNat = 0
    decide
  | n + 1, hn, h => by
    have h1 := pkN_lt n (fun k hk => h k (by omega))
    have h2 : 4 ^ n ≤ 4 ^ 30 := Nat.pow_le_pow_right (by decide) (by omega)
    rw [pkZ_s]
    exact sh_or (pkZ_N n (by omega) (fun k hk => h k (by omega))) (by omega) (h n (by omega))
theorem encK_rng {w h : Nat} {g : Int → Int → Int} (hg : okG g) (k : Nat) : 0 ≤ encK w h g k ∧ encK w h g k ≤ 3 := by
  unfold encK
  split
  · exact hg _ _
  · omega
theorem okG_itP {g : Int → Int → Int} (o : okG g) : ∀ i, okG (itG g i)
  | 0 => o
  | i + 1 => fun x y => nextZ_rng _ _
theorem outG_itP {w h : Nat} {g : Int → Int → Int} (o : outG w h g) : ∀ i, outG w h (itG g i)
  | 0 => o
  | i + 1 => by
    intro x y q
    refine outG_itP o i x y (fun z => q ?_)
    show stepG (itG g i) x y = 0
    unfold stepG
    rw [z]
    rfl
theorem pk_same {w h : Nat} {g : Int → Int → Int} {PW : Nat → Int64} {t a b : Nat} (hs : w * h ≤ 100) (hg : okG g) (ho : outG w h g) (hp : keptW w h g PW t) (ha : a ≤ t) (hb : b ≤ t) : sameW PW a b ↔ itG g a = itG g b := by
  constructor
  · intro e
    have key : ∀ k, k < 100 → encK w h (itG g a) k = encK w h (itG g b) k := by
      intro k hk
      have e1 := e (k / 25) (by omega)
      rw [hp a ha _ (by omega), hp b hb _ (by omega)] at e1
      have r1 : ∀ j, j < 25 → 0 ≤ encK w h (itG g a) (k / 25 * 25 + j) ∧ encK w h (itG g a) (k / 25 * 25 + j) ≤ 3 := fun j _ => encK_rng (okG_itP hg a) _
      have r2 : ∀ j, j < 25 → 0 ≤ encK w h (itG g b) (k / 25 * 25 + j) ∧ encK w h (itG g b) (k / 25 * 25 + j) ≤ 3 := fun j _ => encK_rng (okG_itP hg b) _
      have e2 := pkN_inj 25 r1 r2 (by rw [← pkZ_N 25 (Nat.le_refl 25) r1, ← pkZ_N 25 (Nat.le_refl 25) r2, e1]) (k % 25) (by omega)
      rw [show k / 25 * 25 + k % 25 = k by omega] at e2
      exact e2
    funext x y
    by_cases q : inB w h x y
    · obtain ⟨h1, h2, h3⟩ := cell_mod q.1 q.2.1 q.2.2.1 q.2.2.2
      have e1 := key _ (show (cellZ w h x y).toNat < 100 by omega)
      unfold encK at e1
      rw [if_pos h1, if_pos h1, h2, h3] at e1
      exact e1
    · have z1 : itG g a x y = 0 := Decidable.byContradiction fun z => q (outG_itP ho a x y z)
      have z2 : itG g b x y = 0 := Decidable.byContradiction fun z => q (outG_itP ho b x y z)
      rw [z1, z2]
  · intro e j hj
    rw [hp a ha j hj, hp b hb j hj, e]
