/-! PURE: what is shown -/
section ZQ
variable {cn rn Ln : Nat} {p : xPv} {n : Int32} {U : Nat → Nat → Int32} {N : Nat} {I : Nat → xSi} {V : Nat → Nat → Nat → Int32} {J : xMi} {X : Nat → Nat → Int32}
theorem z_hitsIn {W : Nat → Nat → Int32} {q : Nat} (hq : q < 640) : FX4_hitsIn W (nI q) = W 7 q ∧ FX4_inkIn W (nI q) = W 6 q := by
  have n0 : ¬ nI q < 0 := nI_pos (by omega)
  have e640 : ¬ (640 : Int32) ≤ nI q := nI_ge (a := q) (b := 640) hq (by decide)
  unfold FX4_hitsIn FX4_inkIn
  rw [if_neg n0, if_neg e640, if_neg n0, if_neg e640, nI_clamp (by omega)]
  exact ⟨rfl, rfl⟩
theorem z_hits (h : zRel0 cn rn Ln p n U N I V J X) (hs : zShow cn rn N V X) {k q : Nat} (hk : k < N) (hq : q < 640) : X 24 (Int32.toNatClampNeg ((640 * nI k) + nI q)) = V k 7 q := by
  have h6 := h.2.1
  rw [z640 (by omega) hq]
  exact (hs k hk q hq).1
theorem z_lat0 (h : zRel0 cn rn Ln p n U N I V J X) (hs : zShow cn rn N V X) {q : Nat} (hq : q < 640) : ∀ (n9 j : Nat) (lt ly bs : Int32), j + n9 = N → ((lt = -9 ∧ ly = 0 ∧ bs = -1) ∨ ∃ k, k < N ∧ lt = nI k ∧ bs = nI k ∧ ly = X 9 k ∧ ¬ V k 7 q = 0) → ((LX5_latestIn N I V (nI q) n9 j lt ly = -9 ∧ LX6_latest J X (nI q) (-1) n9 j bs = -1) ∨ ∃ k, k < N ∧ LX5_latestIn N I V (nI q) n9 j lt ly = nI k ∧ LX6_latest J X (nI q) (-1) n9 j bs = nI k ∧ ¬ V k 7 q = 0) := by
  have h6 := h.2.1
  intro n9
  induction n9 with
  | zero =>
    intro j lt ly bs _ hr
    rw [LX5_latestIn, LX6_latest]
    rcases hr with ⟨a, -, c⟩ | ⟨k, a, b, c, -, e⟩
    · exact Or.inl ⟨a, c⟩
    · exact Or.inr ⟨k, a, b, c, e⟩
  | succ n9 ih =>
    intro j lt ly bs hj hr
    have hjN : j < N := by omega
    have sr := h.2.2.2.2.1 j hjN
    have ly9 := (h.2.2.2.1 j (by omega)).1
    rw [LX5_latestIn, LX6_latest, (z_hitsIn hq).1, z_hits h hs hjN hq, sr.1.2.1, if_pos (show (-1 : Int32) < 0 by decide), if_neg (show ¬ (1 : Int32) = 0 by decide), nI_clamp (show j < 2 ^ 31 by omega)]
    refine ih (j + 1) _ _ _ (by omega) ?_
    by_cases hz : V j 7 q = 0
    · rw [if_pos hz, if_pos hz, if_pos hz]
      split <;> exact hr
    · rw [if_neg hz, if_neg hz, if_neg hz]
      rcases hr with ⟨a, b, c⟩ | ⟨k, hk, a, b, c, d⟩
      · have hn : ¬ X 9 j < ly := by rw [b, fa_lt, zi0]; omega
        rw [if_neg hn, if_neg hn, c, if_pos (by decide)]
        exact Or.inr ⟨j, hjN, rfl, rfl, rfl, hz⟩
      · rw [b, if_neg (nI_pos (by omega)), nI_clamp (show k < 2 ^ 31 by omega), c]
        by_cases hl : X 9 j < X 9 k
        · rw [if_pos hl, if_pos hl, if_pos hl]
          exact Or.inr ⟨k, hk, a, rfl, rfl, d⟩
        · rw [if_neg hl, if_neg hl, if_neg hl]
          exact Or.inr ⟨j, hjN, rfl, rfl, rfl, hz⟩
theorem z_lat (h : zRel0 cn rn Ln p n U N I V J X) (hs : zShow cn rn N V X) {q : Nat} (hq : q < 640) : (FX5_latestIn N I V (nI q) = -9 ∧ FX6_latest J X (nI q) (-1) = -1) ∨ ∃ k, k < N ∧ FX5_latestIn N I V (nI q) = nI k ∧ FX6_latest J X (nI q) (-1) = nI k ∧ ¬ V k 7 q = 0 := by
  unfold FX5_latestIn FX6_latest
  rw [h.2.1.2.1, nI_clamp (by have := h.2.1; omega)]
  exact z_lat0 h hs hq N 0 _ _ _ (by omega) (Or.inl ⟨rfl, rfl, rfl⟩)
theorem z_cov0 (h : zRel0 cn rn Ln p n U N I V J X) {x y : Int32} : ∀ (n9 j : Nat), j + n9 = Ln → (LX0_covering n U x y n9 j = -9 ∧ LX6_labelAt J X x y n9 j = -1) ∨ ∃ k, k < Ln ∧ LX0_covering n U x y n9 j = nI k ∧ LX6_labelAt J X x y n9 j = nI k := by
  have h6 := h.2.1
  intro n9
  induction n9 with
  | zero => intro j _; rw [LX0_covering, LX6_labelAt]; exact Or.inl ⟨rfl, rfl⟩
  | succ n9 ih =>
    intro j hj
    have hjL : j < Ln := by omega
    have lb := h.2.2.2.2.2 j hjL
    have b1 := lb.2.1
    have b3 := lb.2.2
    rw [LX0_covering, LX6_labelAt, nI_clamp (show j < 2 ^ 31 by omega), ← lb.1.2.1, ← lb.1.1, ← lb.1.2.2.1]
    have e1 : (U 1 j + U 3 j).toInt = (U 1 j).toInt + (U 3 j).toInt := fb_addI (by omega) (by omega)
    have e2 : (U 1 j + U 3 j - 1).toInt = (U 1 j).toInt + (U 3 j).toInt - 1 := by rw [fb_subI] <;> rw [e1, zi1] <;> omega
    by_cases hy : U 2 j = y
    · rw [if_pos hy, if_pos hy]
      by_cases hx : x < U 1 j
      · rw [if_pos hx, if_pos (by unfold FX6_in; rw [if_pos hx])]
        exact ih (j + 1) (by omega)
      · rw [if_neg hx]
        by_cases hx2 : U 1 j + U 3 j ≤ x
        · rw [if_pos hx2, if_pos (by unfold FX6_in; rw [if_neg hx, if_pos (by rw [fa_le, e1] at hx2; rw [fa_lt, e2]; omega)])]
          exact ih (j + 1) (by omega)
        · rw [if_neg hx2, if_neg (by unfold FX6_in; rw [if_neg hx, if_neg (by rw [fa_le, e1] at hx2; rw [fa_lt, e2]; omega)]; decide)]
          exact Or.inr ⟨j, hjL, rfl, rfl⟩
    · rw [if_neg hy, if_neg hy]
      exact ih (j + 1) (by omega)
theorem z_cov (h : zRel0 cn rn Ln p n U N I V J X) (x y : Int32) : (FX0_covering n U x y = -9 ∧ FX6_labelAt J X x y = -1) ∨ ∃ k, k < Ln ∧ FX0_covering n U x y = nI k ∧ FX6_labelAt J X x y = nI k := by
  have h6 := h.2.1
  unfold FX0_covering FX6_labelAt
  rw [h6.2.2.1, h6.1, nI_clamp (by omega)]
  have z := z_cov0 h (x := x) (y := y) Ln 0 (by omega)
  rw [h6.1] at z
  exact z
theorem z_cellQ (h : zRel0 cn rn Ln p n U N I V J X) {j r : Nat} (hj : j < cn) (hr : r < rn) : FX1_cellAt p (nI j) (nI r) = nI (r * cn + j) ∧ ((nI r * J.1) + nI j) = nI (r * cn + j) ∧ r * cn + j < cn * rn ∧ r * cn + j < 640 := by
  have d := h.1
  have h640 := z_cn d
  have h1 : r * cn ≤ (rn - 1) * cn := Nat.mul_le_mul_right _ (by omega)
  have h2 : (rn - 1) * cn + cn = cn * rn := by
    rw [← Nat.succ_mul, Nat.succ_eq_add_one, show rn - 1 + 1 = rn by omega, Nat.mul_comm]
  unfold FX1_cellAt
  rw [d.1.1, d.1.2.2.1, pk_mul, nI_add]
  exact ⟨rfl, rfl, by omega, by omega⟩
theorem z_ne32 {z : Nat} (h : 32 < z) (hz : z < 2 ^ 31) : ¬ nI z = 32 := by
  intro e
  have := (nI_eq (a := z) (b := 32) hz (by decide)).mp e
  omega
/-- the sign of a cell -/
theorem z_sign (h : zRel0 cn rn Ln p n U N I V J X) (hs : zShow cn rn N V X) {j r : Nat} (hj : j < cn) (hr : r < rn) : FX5_signOf p n U N I V (nI j) (nI r) = FX6_signAt J X (nI j) (nI r) ∧ (FX5_isCovered p n U N I V (nI j) (nI r) = 0 ↔ FX6_signAt J X (nI j) (nI r) = 32) := by
  have h6 := h.2.1
  obtain ⟨c1, c2, c3, c4⟩ := z_cellQ h hj hr
  unfold FX5_signOf FX6_signAt FX5_isCovered
  rw [c1, c2]
  rcases z_cov h (nI j) (nI r) with ⟨a, b⟩ | ⟨k, hk, a, b⟩
  · rw [a, b, if_pos (rfl : (-9 : Int32) = -9), if_pos (show (-1 : Int32) < 0 by decide), if_pos (rfl : (-9 : Int32) = -9)]
    rcases z_lat h hs c4 with ⟨a2, b2⟩ | ⟨k, hk, a2, b2, hne⟩
    · rw [a2, b2, if_pos (show (-9 : Int32) < 0 by decide), if_neg (show ¬ (0 : Int32) ≤ -1 by decide), if_pos (rfl : (-9 : Int32) = -9)]
      exact ⟨rfl, by decide⟩
    · have sr := h.2.2.2.2.1 k hk
      have n9k : ¬ nI k = -9 := fun z => by
        have : nI k < 0 := by rw [z]; decide
        exact nI_pos (by omega) this
      rw [a2, b2, if_neg (show ¬ nI k < 0 from nI_pos (by omega)), if_pos (show (0 : Int32) ≤ nI k from nI_pos' (by omega)), nI_clamp (show k < 2 ^ 31 by omega), if_neg n9k, z640 (by omega) c4]
      obtain ⟨h1, a0, b0, e1, e2, e3, e4, e5, e6, e7⟩ := hs k hk _ c4
      have ha0 : a0 ≠ 0 := fun z => hne (by rw [show V k 7 (r * cn + j) = nI a0 from e1, z]; rfl)
      have e8 := (e7 ha0).1
      have e8 : X 23 (640 * k + (r * cn + j)) = _ := e8
      have e2 : V k 6 (r * cn + j) = nI b0 := e2
      have eS : FX3_signIn (I k) (V k) (nI (r * cn + j)) = X 23 (640 * k + (r * cn + j)) := by
        rw [e8]
        unfold FX3_signIn
        rw [sr.1.1, sr.1.2.2.1, (z_hitsIn c4).2, e2, show (9600 : Int32) = nI 9600 from rfl, show (10240 : Int32) = nI 10240 from rfl, nI_add, nI_add]
      rw [eS]
      refine ⟨rfl, ?_⟩
      rw [e8]
      constructor
      · intro z; exact absurd z (by decide)
      · intro z
        exfalso
        by_cases m0 : X 8 k = 0
        · rw [if_pos m0] at z
          have := sr.2.2.1
          rw [z] at this
          exact absurd this.1 (by decide)
        · rw [if_neg m0] at z
          by_cases m3 : X 8 k = 3
          · rw [if_pos m3] at z; exact z_ne32 (by omega) (by omega) z
          · rw [if_neg m3] at z; exact z_ne32 (by omega) (by omega) z
  · rw [a, b, if_neg (show ¬ nI k < 0 from nI_pos (by omega))]
    have n9 : ¬ nI k = -9 := fun z => by
      have : nI k < 0 := by rw [z]; decide
      exact nI_pos (by omega) this
    rw [if_neg n9, if_neg n9]
    refine ⟨rfl, ?_⟩
    constructor
    · intro z; exact absurd z (by decide)
    · intro z
      rw [show (8192 : Int32) = nI 8192 from rfl, nI_add] at z
      exact absurd z (z_ne32 (by omega) (by omega))
theorem z_cvI (h : zRel0 cn rn Ln p n U N I V J X) (hs : zShow cn rn N V X) {r : Nat} (hr : r < rn) : ∀ (n9 j : Nat) (ac : Int32), j + n9 ≤ cn → LX5_cvI p n U N I V r n9 j ac = LX6_cvI J X r n9 j ac := by
  intro n9
  induction n9 with
  | zero => intro j ac _; rw [LX5_cvI, LX6_cvI]
  | succ n9 ih =>
    intro j ac hj
    have z := z_sign h hs (j := j) (by omega) hr
    rw [LX5_cvI, LX6_cvI, ih (j + 1) _ (by omega)]
    by_cases e : FX5_isCovered p n U N I V (nI j) (nI r) = 0
    · rw [if_pos e, if_pos (z.2.mp e), Int32.add_zero]
    · rw [if_neg e, if_neg (fun q => e (z.2.mpr q))]
theorem z_cvO (h : zRel0 cn rn Ln p n U N I V J X) (hs : zShow cn rn N V X) {a w : Nat} (ha : a + w ≤ cn) : ∀ (n9 r : Nat) (ac : Int32), r + n9 ≤ rn → LX5_cvO p n U N I V a w n9 r ac = LX6_cvO J X a w n9 r ac := by
  intro n9
  induction n9 with
  | zero => intro r ac _; rw [LX5_cvO, LX6_cvO]
  | succ n9 ih => intro r ac hr; rw [LX5_cvO, LX6_cvO, ih (r + 1) _ (by omega), z_cvI h hs (show r < rn by omega) w a ac ha]
theorem z_dgI (h : zRel0 cn rn Ln p n U N I V J X) (hs : zShow cn rn N V X) {r : Nat} (hr : r < rn) : ∀ (n9 j : Nat) (ac : Int64), j + n9 ≤ cn → LX5_dgI p n U N I V r n9 j ac = LX6_dgI J X r n9 j ac := by
  intro n9
  induction n9 with
  | zero => intro j ac _; rw [LX5_dgI, LX6_dgI]
  | succ n9 ih => intro j ac hj; rw [LX5_dgI, LX6_dgI, ih (j + 1) _ (by omega), (z_sign h hs (j := j) (by omega) hr).1]
theorem z_dgO (h : zRel0 cn rn Ln p n U N I V J X) (hs : zShow cn rn N V X) : ∀ (n9 r : Nat) (ac : Int64), r + n9 ≤ rn → LX5_dgO p n U N I V cn n9 r ac = LX6_dgO J X cn n9 r ac := by
  intro n9
  induction n9 with
  | zero => intro r ac _; rw [LX5_dgO, LX6_dgO]
  | succ n9 ih => intro r ac hr; rw [LX5_dgO, LX6_dgO, ih (r + 1) _ (by omega), z_dgI h hs (show r < rn by omega) cn 0 ac (by omega)]
-- ---- free places
theorem z_free0 (h : zRel0 cn rn Ln p n U N I V J X) (hs : zShow cn rn N V X) {r : Nat} (hr : r < rn) : ∀ (n9 j m : Nat), j + n9 ≤ cn → (LX6_free J X (nI r) n9 j 1 = 0 ∨ LX6_free J X (nI r) n9 j 1 = 1) ∧ ∃ c, c ≤ n9 ∧ LX5_cvI p n U N I V r n9 j (nI m) = nI (m + c) ∧ (c = 0 ↔ LX6_free J X (nI r) n9 j 1 = 1) := by
  have zero : ∀ (n9 j : Nat), LX6_free J X (nI r) n9 j 0 = 0 := by
    intro n9
    cases n9 with
    | zero => intro j; rw [LX6_free]
    | succ n9 => intro j; rw [LX6_free, if_pos rfl]
  intro n9
  induction n9 with
  | zero => intro j m _; rw [LX6_free, LX5_cvI]; exact ⟨Or.inr rfl, 0, Nat.le_refl _, rfl, by decide⟩
  | succ n9 ih =>
    intro j m hj
    have z := z_sign h hs (j := j) (by omega) hr
    rw [LX6_free, LX5_cvI, if_neg (by decide)]
    by_cases e : FX5_isCovered p n U N I V (nI j) (nI r) = 0
    · rw [if_pos e, if_pos (z.2.mp e)]
      obtain ⟨a, c, h1, h2, h3⟩ := ih (j + 1) m (by omega)
      exact ⟨a, c, by omega, h2, h3⟩
    · rw [if_neg e, if_neg (fun q => e (z.2.mpr q)), zero, nI_1]
      obtain ⟨a, c, h1, h2, h3⟩ := ih (j + 1) (m + 1) (by omega)
      exact ⟨Or.inl rfl, c + 1, by omega, by rw [h2]; congr 1; omega, ⟨fun q => absurd q (Nat.succ_ne_zero c), fun q => absurd q (by decide)⟩⟩
theorem z_hasX (h : zRel0 cn rn Ln p n U N I V J X) {x y : Int32} : ¬ FX1_has p x y = 0 ↔ (0 ≤ x.toInt ∧ x.toInt < cn ∧ 0 ≤ y.toInt ∧ y.toInt < rn) := by
  have d := h.1
  have e1 : p.1.toInt = cn := by rw [d.1.1, nI_toInt (by have := d.2; omega)]
  have e2 : p.2.1.toInt = rn := by rw [d.1.2.1, nI_toInt (by have := d.2; omega)]
  unfold FX1_has
  simp only [fa_lt, fa_le, e1, e2, zi0]
  repeat' split
  all_goals (constructor <;> intro q <;> first | omega | exact absurd rfl q | decide)
theorem z_free (h : zRel0 cn rn Ln p n U N I V J X) (hs : zShow cn rn N V X) {x y : Int32} {w : Nat} (hx : -1000 ≤ x.toInt ∧ x.toInt ≤ 1000) (hw : 1 ≤ w) (hw2 : w ≤ 10) : FX5_isFree p n U N I V x y w = 0 ↔ FX6_isFree J X x y w = 0 := by
  have d := h.1
  have dd := d.2
  have ew : (nI w).toInt = (w : Int) := nI_toInt (by omega)
  have e1 : (x + nI w).toInt = x.toInt + w := by rw [fb_addI] <;> rw [ew] <;> omega
  have e2 : (x + nI w - 1).toInt = x.toInt + w - 1 := by rw [fb_subI] <;> rw [e1, zi1] <;> omega
  have ec : J.1.toInt = cn := by rw [d.1.2.2.1, nI_toInt (by omega)]
  have er : (J.2.1 - 1).toInt = (rn : Int) - 1 := by
    have : J.2.1.toInt = rn := by rw [d.1.2.2.2, nI_toInt (by omega)]
    rw [fb_subI] <;> rw [this, zi1] <;> omega
  have g : ¬ frG J x y (nI w) = 0 ↔ (0 ≤ x.toInt ∧ x.toInt + w ≤ cn ∧ 0 ≤ y.toInt ∧ y.toInt < rn) := by
    unfold frG
    by_cases h1 : FX6_in y 0 (J.2.1 - 1) = 0
    · rw [if_pos h1]
      refine ⟨fun q => absurd rfl q, fun q => ?_⟩
      exact absurd h1 (in_iff.mpr ⟨by rw [fa_lt, zi0]; omega, by rw [fa_lt, er]; omega⟩)
    · rw [if_neg h1]
      have hi := in_iff.mp h1
      rw [fa_lt, fa_lt, er, zi0] at hi
      by_cases h2 : x < 0
      · rw [if_pos h2]
        rw [fa_lt, zi0] at h2
        exact ⟨fun q => absurd rfl q, fun q => by omega⟩
      · rw [if_neg h2]
        rw [fa_lt, zi0] at h2
        by_cases h3 : J.1 < x + nI w
        · rw [if_pos h3]
          rw [fa_lt, ec, e1] at h3
          exact ⟨fun q => absurd rfl q, fun q => by omega⟩
        · rw [if_neg h3]
          rw [fa_lt, ec, e1] at h3
          exact ⟨fun _ => by omega, fun _ => by decide⟩
  unfold FX5_isFree FX6_isFree
  by_cases hg : frG J x y (nI w) = 0
  · rw [if_pos hg]
    have ng := fun q => (g.mpr q) hg
    refine ⟨fun _ => rfl, fun _ => ?_⟩
    by_cases h1 : FX1_has p x y = 0
    · rw [if_pos h1]
    · rw [if_neg h1]
      by_cases h2 : FX1_has p (x + nI w - 1) y = 0
      · rw [if_pos h2]
      · exfalso
        have a := (z_hasX h).mp h1
        have b := (z_hasX h).mp h2
        rw [e2] at b
        exact ng ⟨a.1, by omega, a.2.2.1, a.2.2.2⟩
  · rw [if_neg hg]
    have gg := g.mp hg
    have h1 : ¬ FX1_has p x y = 0 := (z_hasX h).mpr ⟨gg.1, by omega, gg.2.2.1, gg.2.2.2⟩
    have h2 : ¬ FX1_has p (x + nI w - 1) y = 0 := (z_hasX h).mpr ⟨by rw [e2]; omega, by rw [e2]; omega, gg.2.2.1, gg.2.2.2⟩
    rw [if_neg h1, if_neg h2]
    obtain ⟨a, ha, rfl⟩ := z_nat gg.1 (n := cn) (by omega) (by omega)
    obtain ⟨r, hr, rfl⟩ := z_nat gg.2.2.1 (n := rn) gg.2.2.2 (by omega)
    rw [nI_clamp (by omega), nI_clamp (by omega)]
    have ea : (nI a).toInt = (a : Int) := nI_toInt (by omega)
    obtain ⟨z1, c, z2, z3, z4⟩ := z_free0 h hs hr w a 0 (by omega)
    unfold FX5_coveredWithin
    rw [LX5_cvO, LX5_cvO, show (0 : Int32) = nI 0 from rfl, z3, Nat.zero_add]
    by_cases hc : c = 0
    · rw [hc, if_pos rfl, z4.mp hc]
    · rw [if_neg (fun q => hc ((nI_eq (b := 0) (by omega) (by decide)).mp q))]
      refine ⟨fun _ => ?_, fun _ => rfl⟩
      exact z1.resolve_right (fun q => hc (z4.mpr q))
theorem z_way : ∀ k, k < 4 → ∀ cl rw w : Int32, FX5_firstColumn (nI k) cl w = mlC (nI k) cl w ∧ FX5_labelRow (nI k) rw = mlR (nI k) rw := by
  intro k hk cl rw w
  rcases (show k = 0 ∨ k = 1 ∨ k = 2 ∨ k = 3 by omega) with rfl | rfl | rfl | rfl <;> exact ⟨rfl, rfl⟩
theorem z_labW (h : zRel0 cn rn Ln p n U N I V J X) (hs : zShow cn rn N V X) {cl rw : Int32} {w : Nat} (hcl : -100 ≤ cl.toInt ∧ cl.toInt ≤ 100) (hw : 1 ≤ w) (hw2 : w ≤ 10) : ∀ (n9 k : Nat), k + n9 = 4 → labW p n U N I V cl rw w n9 k = labM J X cl rw w n9 k := by
  intro n9
  induction n9 with
  | zero => intro k _; rw [labW, labM]
  | succ n9 ih =>
    intro k hk
    have zw := z_way k (by omega) cl rw (nI w)
    rw [labW, labM, ih (k + 1) (by omega), zw.1, zw.2]
    have hb : -1000 ≤ (mlC (nI k) cl (nI w)).toInt := by
      unfold mlC
      have ew : (nI w).toInt = (w : Int) := nI_toInt (by omega)
      split
      · rw [fb_addI] <;> rw [zi1] <;> omega
      · split
        · rw [fb_subI] <;> rw [ew] <;> omega
        · omega
    have z := z_free h hs (x := mlC (nI k) cl (nI w)) (y := mlR (nI k) rw) (w := w) ⟨hb, mlC_le hcl hw2⟩ hw hw2
    by_cases e : FX5_isFree p n U N I V (mlC (nI k) cl (nI w)) (mlR (nI k) rw) w = 0
    · rw [if_pos e, if_pos (z.mp e)]
    · rw [if_neg e, if_neg (fun q => e (z.mpr q))]
theorem z_legend (h : zRel0 cn rn Ln p n U N I V J X) (hs : zShow cn rn N V X) {w g : Nat} (hw : w ≤ cn) (hg : g ≤ rn) : FX5_legend p n U N I V cn rn w g = FX6_legend J X cn rn w g := by
  have e : ∀ k, FX5_coveredWithin p n U N I V (lgA cn w k) (lgB rn g k) w g = LX6_cvO J X (lgA cn w k) w g (lgB rn g k) 0 := fun k => z_cvO h hs (by unfold lgA; split <;> omega) g _ 0 (by unfold lgB; split <;> omega)
  unfold FX5_legend FX6_legend
  exact congrArg (fun f => lgM f 4 0 0 641) (funext e)
end ZQ
