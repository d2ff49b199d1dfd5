def clo (g : Int → Int → Int) (C : Int → Int → Prop) : Prop := ∀ a b, C a b → ∀ d, d < 8 → g (a + dX d) (b + dY d) ≠ 0 → C (a + dX d) (b + dY d)
/-- two cells of one piece of wire -/
def con (g : Int → Int → Int) (x y a b : Int) : Prop := g x y ≠ 0 ∧ ∀ C : Int → Int → Prop, clo g C → C x y → C a b
theorem con_rf {g : Int → Int → Int} {x y : Int} (h : g x y ≠ 0) : con g x y x y := ⟨h, fun _ _ q => q⟩
theorem con_step {g : Int → Int → Int} {x y a b : Int} {d : Nat} (h : con g x y a b) (hd : d < 8) (hg : g (a + dX d) (b + dY d) ≠ 0) : con g x y (a + dX d) (b + dY d) := ⟨h.1, fun C hC q => hC a b (h.2 C hC q) d hd hg⟩
theorem con_tr {g : Int → Int → Int} {x y a b u v : Int} (h1 : con g x y a b) (h2 : con g a b u v) : con g x y u v := ⟨h1.1, fun C hC q => h2.2 C hC (h1.2 C hC q)⟩
theorem con_sy {g : Int → Int → Int} {x y a b : Int} (h : con g x y a b) : con g a b x y := by
  refine (h.2 (fun a b => g a b ≠ 0 ∧ con g a b x y) (fun a b q d hd hg => ⟨hg, ?_⟩) ⟨h.1, con_rf h.1⟩).2
  have e := opp_d d hd
  have s := con_step (d := (d + 4) % 8) (con_rf hg) (Nat.mod_lt _ (by decide)) (by rw [e.1, e.2, Int.add_neg_cancel_right, Int.add_neg_cancel_right]; exact q.1)
  rw [e.1, e.2, Int.add_neg_cancel_right, Int.add_neg_cancel_right] at s
  exact con_tr s q.2
def bfI (g : Int → Int → Int) (X Y : Int) (T : Bs) : Prop := (∀ a b, T.1 a b ≠ -1 ↔ ∃ j, j < T.2.2.2 ∧ T.2.1 j = a ∧ T.2.2.1 j = b) ∧ ∀ j, j < T.2.2.2 → con g X Y (T.2.1 j) (T.2.2.1 j)
theorem bf_vis {g : Int → Int → Int} {X Y : Int} {T : Bs} (hb : bfI g X Y T) {way x y : Int} (hw : 0 ≤ way) (hc : g x y ≠ 0 → con g X Y x y) : bfI g X Y (visG g way x y T) ∧ (g x y ≠ 0 → (visG g way x y T).1 x y ≠ -1) ∧ ∀ a b, T.1 a b ≠ -1 → (visG g way x y T).1 a b ≠ -1 := by
  by_cases z : g x y = 0 ∨ T.1 x y ≠ -1
  · rw [visG_skip z]
    exact ⟨hb, fun q => z.resolve_left q, fun _ _ q => q⟩
  · have q1 : g x y ≠ 0 := fun u => z (Or.inl u)
    have q2 : T.1 x y = -1 := Decidable.byContradiction fun u => z (Or.inr u)
    rw [visG_new q1 q2]
    refine ⟨⟨fun a b => ?_, fun j hj => ?_⟩, fun _ => ?_, fun a b q => ?_⟩
    · show up2 T.1 x y way a b ≠ -1 ↔ ∃ j, j < T.2.2.2 + 1 ∧ upZ T.2.1 T.2.2.2 x j = a ∧ upZ T.2.2.1 T.2.2.2 y j = b
      by_cases e : a = x ∧ b = y
      · rw [e.1, e.2, up2_s]
        exact ⟨fun _ => ⟨T.2.2.2, by omega, upZ_s, upZ_s⟩, fun _ => by omega⟩
      · rw [up2_n e, hb.1 a b]
        constructor
        · rintro ⟨j, h1, h2, h3⟩
          exact ⟨j, by omega, by rw [upZ_n (by omega)]; exact h2, by rw [upZ_n (by omega)]; exact h3⟩
        · rintro ⟨j, h1, h2, h3⟩
          by_cases u : j = T.2.2.2
          · rw [u, upZ_s] at h2 h3
            exact absurd ⟨h2.symm, h3.symm⟩ e
          · rw [upZ_n u] at h2 h3
            exact ⟨j, by omega, h2, h3⟩
    · show con g X Y (upZ T.2.1 T.2.2.2 x j) (upZ T.2.2.1 T.2.2.2 y j)
      have hj1 : j < T.2.2.2 + 1 := hj
      by_cases u : j = T.2.2.2
      · rw [u, upZ_s, upZ_s]
        exact hc q1
      · rw [upZ_n u, upZ_n u]
        exact hb.2 j (by omega)
    · show up2 T.1 x y way x y ≠ -1
      rw [up2_s]
      omega
    · show up2 T.1 x y way a b ≠ -1
      by_cases e : a = x ∧ b = y
      · rw [e.1, e.2, up2_s]
        omega
      · rw [up2_n e]
        exact q
theorem bf_dir {g : Int → Int → Int} {X Y : Int} {T : Bs} (hb : bfI g X Y T) {way x y : Int} (hw : 0 ≤ way) (hc : con g X Y x y) : ∀ n, n ≤ 8 → bfI g X Y (dirG g way x y n T) ∧ (∀ d, d < n → g (x + dX d) (y + dY d) ≠ 0 → (dirG g way x y n T).1 (x + dX d) (y + dY d) ≠ -1) ∧ ∀ a b, T.1 a b ≠ -1 → (dirG g way x y n T).1 a b ≠ -1
  | 0, _ => ⟨hb, fun d hd => absurd hd (Nat.not_lt_zero d), fun _ _ q => q⟩
  | n + 1, hn => by
    obtain ⟨a1, a2, a3⟩ := bf_dir hb hw hc n (by omega)
    obtain ⟨b1, b2, b3⟩ := bf_vis a1 hw (x := x + dX n) (y := y + dY n) (fun q => con_step hc (by omega) q)
    refine ⟨b1, fun d hd hg => ?_, fun a b q => b3 a b (a3 a b q)⟩
    by_cases u : d = n
    · rw [u] at hg ⊢
      exact b2 hg
    · exact b3 _ _ (a2 d (by omega) hg)
theorem bf_I {w h : Nat} {g : Int → Int → Int} {X Y : Int} (hg : outG w h g) (hs : w * h ≤ 100) (h0 : g X Y ≠ 0) : ∀ i, bfI g X Y (bfsI g X Y nilM i) ∧ (bfsI g X Y nilM i).1 X Y ≠ -1 ∧ ∀ j, j < i → j < (bfsI g X Y nilM i).2.2.2 → ∀ d, d < 8 → g ((bfsI g X Y nilM i).2.1 j + dX d) ((bfsI g X Y nilM i).2.2.1 j + dY d) ≠ 0 → (bfsI g X Y nilM i).1 ((bfsI g X Y nilM i).2.1 j + dX d) ((bfsI g X Y nilM i).2.2.1 j + dY d) ≠ -1
  | 0 => by
    obtain ⟨b1, b2, b3⟩ := bf_vis (g := g) (X := X) (Y := Y) (T := (nilM, fun _ => 0, fun _ => 0, 0)) (way := 0) (x := X) (y := Y) ⟨fun a b => ⟨fun q => absurd rfl q, fun ⟨j, hj, _⟩ => absurd hj (Nat.not_lt_zero j)⟩, fun j hj => absurd hj (Nat.not_lt_zero j)⟩ (Int.le_refl 0) (fun q => con_rf q)
    exact ⟨b1, b2 h0, fun j hj => absurd hj (Nat.not_lt_zero j)⟩
  | i + 1 => by
    obtain ⟨a1, a0, a2⟩ := bf_I hg hs h0 i
    have o := bfsI_ok hg hs X Y nilM_rng i
    by_cases q : i < (bfsI g X Y nilM i).2.2.2
    · rw [bfsI_s q]
      generalize bfsI g X Y nilM i = T at a1 a0 a2 o q ⊢
      have hq := o.1 i q
      obtain ⟨p1, p2, p3⟩ := pop_all hg hs o q
      obtain ⟨b1, b2, b3⟩ := bf_dir a1 (way := T.1 (T.2.1 i) (T.2.2.1 i) + 1) (x := T.2.1 i) (y := T.2.2.1 i) (by omega) (a1.2 i q) 8 (Nat.le_refl 8)
      refine ⟨b1, b3 _ _ a0, fun j hj hj2 d hd hgd => ?_⟩
      obtain ⟨e1, e2, -⟩ := p3 j (by omega)
      rw [e1, e2] at hgd ⊢
      by_cases u : j = i
      · rw [u] at hgd ⊢
        exact b2 d hd hgd
      · exact b3 _ _ (a2 j (by omega) (by omega) d hd hgd)
    · rw [show bfsI g X Y nilM (i + 1) = bfsI g X Y nilM i by rw [bfsI, if_neg q]]
      exact ⟨a1, a0, fun j hj hj2 d hd hgd => a2 j (by omega) hj2 d hd hgd⟩
/-- what a search finds: the piece of wire -/
theorem bf_all {w h : Nat} {g : Int → Int → Int} {X Y : Int} (hg : outG w h g) (hs : w * h ≤ 100) (h0 : g X Y ≠ 0) : okB w h (bfsG g X Y nilM) ∧ bfI g X Y (bfsG g X Y nilM) ∧ ∀ a b, (bfsG g X Y nilM).1 a b ≠ -1 ↔ con g X Y a b := by
  obtain ⟨a1, a0, a2⟩ := bf_I hg hs h0 100
  have o := bfsI_ok hg hs X Y nilM_rng 100
  unfold bfsG
  generalize bfsI g X Y nilM 100 = T at a1 a0 a2 o ⊢
  have hn := okB_len o
  refine ⟨o, a1, fun a b => ⟨fun q => ?_, fun q => ?_⟩⟩
  · obtain ⟨j, h1, h2, h3⟩ := (a1.1 a b).mp q
    rw [← h2, ← h3]
    exact a1.2 j h1
  · refine q.2 (fun a b => T.1 a b ≠ -1) (fun a b u d hd hgd => ?_) a0
    obtain ⟨j, h1, h2, h3⟩ := (a1.1 a b).mp u
    rw [← h2, ← h3] at hgd ⊢
    exact a2 j (by omega) h1 d hd hgd
/-- a search that knows other pieces already, beside a fresh one -/
def sm2 (m0 g : Int → Int → Int) (T U : Bs) : Prop := T.2 = U.2 ∧ (∀ a b, m0 a b = -1 → U.1 a b = T.1 a b) ∧ (∀ a b, m0 a b ≠ -1 → U.1 a b = m0 a b) ∧ ∀ j, j < T.2.2.2 → m0 (T.2.1 j) (T.2.2.1 j) = -1 ∧ g (T.2.1 j) (T.2.2.1 j) ≠ 0
theorem sm_vis {m0 g : Int → Int → Int} {T U : Bs} (h : sm2 m0 g T U) {way x y : Int} (hc : g x y ≠ 0 → m0 x y = -1) : sm2 m0 g (visG g way x y T) (visG g way x y U) := by
  by_cases z : g x y = 0 ∨ T.1 x y ≠ -1
  · have z2 : g x y = 0 ∨ U.1 x y ≠ -1 := by
      by_cases q : g x y = 0
      · exact Or.inl q
      · exact Or.inr (by rw [h.2.1 x y (hc q)]; exact z.resolve_left q)
    rw [visG_skip z, visG_skip z2]
    exact h
  · have q1 : g x y ≠ 0 := fun u => z (Or.inl u)
    have q2 : T.1 x y = -1 := Decidable.byContradiction fun u => z (Or.inr u)
    have q3 : U.1 x y = -1 := by rw [h.2.1 x y (hc q1)]; exact q2
    rw [visG_new q1 q2, visG_new q1 q3]
    obtain ⟨h1, h2, h3, h4⟩ := h
    refine ⟨?_, fun a b q => ?_, fun a b q => ?_, fun j hj => ?_⟩
    · show (upZ T.2.1 T.2.2.2 x, upZ T.2.2.1 T.2.2.2 y, T.2.2.2 + 1) = (upZ U.2.1 U.2.2.2 x, upZ U.2.2.1 U.2.2.2 y, U.2.2.2 + 1)
      rw [h1]
    · show up2 U.1 x y way a b = up2 T.1 x y way a b
      by_cases e : a = x ∧ b = y
      · rw [e.1, e.2, up2_s, up2_s]
      · rw [up2_n e, up2_n e]
        exact h2 a b q
    · show up2 U.1 x y way a b = m0 a b
      rw [up2_n (fun e => q (by rw [e.1, e.2]; exact hc q1))]
      exact h3 a b q
    · show m0 (upZ T.2.1 T.2.2.2 x j) (upZ T.2.2.1 T.2.2.2 y j) = -1 ∧ g (upZ T.2.1 T.2.2.2 x j) (upZ T.2.2.1 T.2.2.2 y j) ≠ 0
      have hj1 : j < T.2.2.2 + 1 := hj
      by_cases u : j = T.2.2.2
      · rw [u, upZ_s, upZ_s]
        exact ⟨hc q1, q1⟩
      · rw [upZ_n u, upZ_n u]
        exact h4 j (by omega)
/-- who knows a cell knows its piece -/
def opn (m0 g : Int → Int → Int) : Prop := ∀ a b d, d < 8 → g a b ≠ 0 → m0 a b = -1 → g (a + dX d) (b + dY d) ≠ 0 → m0 (a + dX d) (b + dY d) = -1
theorem sm_dir {m0 g : Int → Int → Int} {T U : Bs} (hr : opn m0 g) (h : sm2 m0 g T U) {way x y : Int} (hx : m0 x y = -1) (hg : g x y ≠ 0) : ∀ n, n ≤ 8 → sm2 m0 g (dirG g way x y n T) (dirG g way x y n U)
  | 0, _ => h
  | n + 1, hn => sm_vis (sm_dir hr h hx hg n (by omega)) (fun q => hr x y n (by omega) hg hx q)
theorem sm_I {m0 g : Int → Int → Int} {X Y : Int} (hr : opn m0 g) (h0 : m0 X Y = -1) : ∀ i, sm2 m0 g (bfsI g X Y nilM i) (bfsI g X Y m0 i)
  | 0 => sm_vis (T := (nilM, fun _ => 0, fun _ => 0, 0)) (U := (m0, fun _ => 0, fun _ => 0, 0)) ⟨rfl, fun a b q => q, fun _ _ _ => rfl, fun j hj => absurd hj (Nat.not_lt_zero j)⟩ (fun _ => h0)
  | i + 1 => by
    have ih := sm_I hr h0 i
    by_cases q : i < (bfsI g X Y nilM i).2.2.2
    · have q2 : i < (bfsI g X Y m0 i).2.2.2 := by
        rw [← ih.1]
        exact q
      rw [bfsI_s q, bfsI_s q2]
      generalize bfsI g X Y nilM i = T at ih q ⊢
      generalize bfsI g X Y m0 i = U at ih q2 ⊢
      have h4 := ih.2.2.2 i q
      unfold popG
      rw [← ih.1, ih.2.1 _ _ h4.1]
      exact sm_dir hr ih h4.1 h4.2 8 (Nat.le_refl 8)
    · have q2 : ¬ i < (bfsI g X Y m0 i).2.2.2 := by
        rw [← ih.1]
        exact q
      rw [show bfsI g X Y nilM (i + 1) = bfsI g X Y nilM i by rw [bfsI, if_neg q], show bfsI g X Y m0 (i + 1) = bfsI g X Y m0 i by rw [bfsI, if_neg q2]]
      exact ih
theorem sm_G {m0 g : Int → Int → Int} {X Y : Int} (hr : opn m0 g) (h0 : m0 X Y = -1) : sm2 m0 g (bfsG g X Y nilM) (bfsG g X Y m0) := by
  unfold bfsG
  exact sm_I hr h0 100
theorem bfs_skip {g m0 : Int → Int → Int} {x y : Int} (h : g x y = 0 ∨ m0 x y ≠ -1) : bfsG g x y m0 = (m0, fun _ => 0, fun _ => 0, 0) := by
  have e : bfsI g x y m0 0 = (m0, fun _ => 0, fun _ => 0, 0) := visG_skip h
  rw [bfs_done (i := 0) (by rw [e]; exact Nat.le_refl 0) (by decide), e]
theorem opn_of {w k : Nat} {g : Int → Int → Int} (ih : ∀ a b, accM w g k a b ≠ -1 ↔ ∃ i, i < k ∧ con g ((i % w : Nat) : Int) ((i / w : Nat) : Int) a b) : opn (accM w g k) g := by
  intro a b d hd h1 h2 h3
  refine Decidable.byContradiction fun u => ?_
  obtain ⟨i, hi, c⟩ := (ih _ _).mp u
  have c2 : con g (a + dX d) (b + dY d) a b := con_sy (con_step (con_rf h1) hd h3)
  exact ((ih a b).mpr ⟨i, hi, con_tr c c2⟩) h2
theorem acc_con {w h : Nat} {g : Int → Int → Int} (hg : outG w h g) (hs : w * h ≤ 100) : ∀ k, ∀ a b, accM w g k a b ≠ -1 ↔ ∃ i, i < k ∧ con g ((i % w : Nat) : Int) ((i / w : Nat) : Int) a b
  | 0 => fun a b => ⟨fun q => absurd rfl q, fun ⟨i, hi, _⟩ => absurd hi (Nat.not_lt_zero i)⟩
  | k + 1 => by
    intro a b
    have ih := acc_con hg hs k
    rw [accM]
    by_cases z : g ((k % w : Nat) : Int) ((k / w : Nat) : Int) = 0 ∨ accM w g k ((k % w : Nat) : Int) ((k / w : Nat) : Int) ≠ -1
    · rw [bfs_skip z]
      show accM w g k a b ≠ -1 ↔ _
      rw [ih a b]
      constructor
      · rintro ⟨i, hi, c⟩
        exact ⟨i, by omega, c⟩
      · rintro ⟨i, hi, c⟩
        by_cases u : i = k
        · rw [u] at c
          obtain ⟨j, hj, c2⟩ := (ih _ _).mp (z.resolve_left c.1)
          exact ⟨j, hj, con_tr c2 c⟩
        · exact ⟨i, by omega, c⟩
    · have q1 : g ((k % w : Nat) : Int) ((k / w : Nat) : Int) ≠ 0 := fun u => z (Or.inl u)
      have q2 : accM w g k ((k % w : Nat) : Int) ((k / w : Nat) : Int) = -1 := Decidable.byContradiction fun u => z (Or.inr u)
      have s := sm_G (opn_of ih) q2
      obtain ⟨-, -, B⟩ := bf_all hg hs q1
      by_cases u : accM w g k a b = -1
      · rw [s.2.1 a b u, B a b]
        constructor
        · intro c
          exact ⟨k, by omega, c⟩
        · rintro ⟨i, hi, c⟩
          by_cases v : i = k
          · rw [v] at c
            exact c
          · exact absurd u ((ih a b).mpr ⟨i, by omega, c⟩)
      · rw [s.2.2.1 a b u]
        obtain ⟨i, hi, c⟩ := (ih a b).mp u
        exact ⟨fun _ => ⟨i, by omega, c⟩, fun _ => u⟩
theorem newG_0 {w k : Nat} {g : Int → Int → Int} (z : g ((k % w : Nat) : Int) ((k / w : Nat) : Int) = 0 ∨ accM w g k ((k % w : Nat) : Int) ((k / w : Nat) : Int) ≠ -1) : newG w g k = 0 := by
  unfold newG
  rw [bfs_skip z]
theorem newG_n {w h k : Nat} {g : Int → Int → Int} (hg : outG w h g) (hs : w * h ≤ 100) (q2 : accM w g k ((k % w : Nat) : Int) ((k / w : Nat) : Int) = -1) : newG w g k = pieceG g ((k % w : Nat) : Int) ((k / w : Nat) : Int) := by
  unfold newG pieceG
  rw [(sm_G (opn_of (acc_con hg hs k)) q2).1]
theorem piece_pos {w h : Nat} {g : Int → Int → Int} {x y : Int} (hg : outG w h g) (hs : w * h ≤ 100) (h0 : g x y ≠ 0) : 0 < pieceG g x y := by
  obtain ⟨-, B1, B⟩ := bf_all hg hs h0
  obtain ⟨j, hj, -⟩ := (B1.1 x y).mp ((B x y).mpr (con_rf h0))
  unfold pieceG
  omega
theorem piece_le {w h : Nat} {g : Int → Int → Int} {x y a b : Int} (hg : outG w h g) (hs : w * h ≤ 100) (c : con g x y a b) : pieceG g x y ≤ pieceG g a b := by
  have c' := con_sy c
  obtain ⟨o, B1, B⟩ := bf_all hg hs c.1
  obtain ⟨-, D1, E⟩ := bf_all hg hs c'.1
  unfold pieceG
  generalize bfsG g x y nilM = T at o B1 B ⊢
  generalize bfsG g a b nilM = U at D1 E ⊢
  have h1 : ∀ j : Nat, ∃ i : Nat, j < T.2.2.2 → i < U.2.2.2 ∧ U.2.1 i = T.2.1 j ∧ U.2.2.1 i = T.2.2.1 j := by
    intro j
    by_cases hj : j < T.2.2.2
    · have c2 : con g a b (T.2.1 j) (T.2.2.1 j) := con_tr c' (B1.2 j hj)
      obtain ⟨i, hi, e1, e2⟩ := (D1.1 _ _).mp ((E _ _).mpr c2)
      exact ⟨i, fun _ => ⟨hi, e1, e2⟩⟩
    · exact ⟨0, fun q => absurd q hj⟩
  obtain ⟨f, hf⟩ := Classical.axiomOfChoice h1
  refine fb_holes _ _ f (fun i hi => (hf i hi).1) (fun i j hij hj e => ?_)
  refine o.2.1 i j hij hj ⟨?_, ?_⟩
  · rw [← (hf i (by omega)).2.1, ← (hf j hj).2.1, e]
  · rw [← (hf i (by omega)).2.2, ← (hf j hj).2.2, e]
theorem isFst_iff {w k : Nat} {g : Int → Int → Int} : ∀ n, isFst w g k n ↔ ∀ i, i < n → (bfsG g ((k % w : Nat) : Int) ((k / w : Nat) : Int) nilM).1 ((i % w : Nat) : Int) ((i / w : Nat) : Int) = -1
  | 0 => ⟨fun _ i hi => absurd hi (Nat.not_lt_zero i), fun _ => trivial⟩
  | n + 1 => by
    rw [isFst, isFst_iff n]
    constructor
    · rintro ⟨h1, h2⟩ i hi
      by_cases q : i = n
      · rw [q]; exact h2
      · exact h1 i (by omega)
    · intro q
      exact ⟨fun i hi => q i (by omega), q n (by omega)⟩
theorem fst_new {w h k : Nat} {g : Int → Int → Int} (hg : outG w h g) (hs : w * h ≤ 100) : (g ((k % w : Nat) : Int) ((k / w : Nat) : Int) ≠ 0 ∧ isFst w g k k) ↔ 0 < newG w g k := by
  by_cases h0 : g ((k % w : Nat) : Int) ((k / w : Nat) : Int) = 0
  · rw [newG_0 (Or.inl h0)]
    exact ⟨fun q => absurd h0 q.1, fun q => absurd q (Nat.lt_irrefl 0)⟩
  · obtain ⟨-, -, B⟩ := bf_all hg hs h0
    by_cases q : accM w g k ((k % w : Nat) : Int) ((k / w : Nat) : Int) = -1
    · rw [newG_n hg hs q]
      refine ⟨fun _ => piece_pos hg hs h0, fun _ => ⟨h0, (isFst_iff k).mpr (fun i hi => ?_)⟩⟩
      refine Decidable.byContradiction fun u => ?_
      exact ((acc_con hg hs k _ _).mpr ⟨i, hi, con_sy ((B _ _).mp u)⟩) q
    · rw [newG_0 (Or.inr q)]
      obtain ⟨i, hi, c⟩ := (acc_con hg hs k _ _).mp q
      exact ⟨fun z => absurd ((isFst_iff k).mp z.2 i hi) ((B _ _).mpr (con_sy c)), fun z => absurd z (Nat.lt_irrefl 0)⟩
theorem pcs_all {w h : Nat} {g : Int → Int → Int} (hg : outG w h g) (hs : w * h ≤ 100) : ∀ k, pcsM w g k = pcsG w g k
  | 0 => rfl
  | k + 1 => by
    have e := pcs_all hg hs k
    rw [pcsG]
    by_cases q : g ((k % w : Nat) : Int) ((k / w : Nat) : Int) ≠ 0 ∧ isFst w g k k
    · rw [pcsM_t q, if_pos ((fst_new hg hs).mp q), e]
    · rw [pcsM_f q, if_neg (fun z => q ((fst_new hg hs).mpr z)), e, Nat.add_zero]
theorem lonM_s (w : Nat) (g : Int → Int → Int) (k : Nat) : lonM w g (k + 1) = if lonM w g k < pieceG g ((k % w : Nat) : Int) ((k / w : Nat) : Int) then pieceG g ((k % w : Nat) : Int) ((k / w : Nat) : Int) else lonM w g k := by rw [lonM]
theorem lonM_lb {w : Nat} {g : Int → Int → Int} : ∀ k j, j < k → pieceG g ((j % w : Nat) : Int) ((j / w : Nat) : Int) ≤ lonM w g k
  | 0, j, h => absurd h (Nat.not_lt_zero j)
  | k + 1, j, h => by
    rw [lonM_s]
    by_cases q : j = k
    · rw [q]
      split <;> omega
    · have := lonM_lb (w := w) (g := g) k j (by omega)
      split <;> omega
theorem lon_all {w h : Nat} {g : Int → Int → Int} (hg : outG w h g) (hs : w * h ≤ 100) : ∀ k, lonM w g k = lonG w g k
  | 0 => rfl
  | k + 1 => by
    have e := lon_all hg hs k
    rw [lonM_s, lonG, ← e]
    by_cases h0 : g ((k % w : Nat) : Int) ((k / w : Nat) : Int) = 0
    · rw [newG_0 (Or.inl h0), pieceG_0 h0]
    · by_cases q : accM w g k ((k % w : Nat) : Int) ((k / w : Nat) : Int) = -1
      · rw [newG_n hg hs q]
      · rw [newG_0 (Or.inr q)]
        obtain ⟨i, hi, c⟩ := (acc_con hg hs k _ _).mp q
        have h1 := piece_le hg hs (con_sy c)
        have h2 := lonM_lb (w := w) (g := g) k i hi
        rw [if_neg (by omega), if_neg (by omega)]
theorem pcs_eq {w h : Nat} {g : Int → Int → Int} (hw : 3 ≤ w ∧ w ≤ 10) (hh : 3 ≤ h ∧ h ≤ 10) (o : outG w h g) : pcsM w g (w * h) = pcsG w g (w * h) := pcs_all o (size_le hw hh).2 _
theorem lon_eq {w h : Nat} {g : Int → Int → Int} (hw : 3 ≤ w ∧ w ≤ 10) (hh : 3 ≤ h ∧ h ≤ 10) (o : outG w h g) : lonM w g (w * h) = lonG w g (w * h) := lon_all o (size_le hw hh).2 _
