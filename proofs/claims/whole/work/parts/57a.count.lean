/-! PURE: count, about, fit, five -/
section ZT
variable {cn rn Ln : Nat} {p : xPv} {n : Int32} {U : Nat → Nat → Int32} {N : Nat} {I : Nat → xSi} {V : Nat → Nat → Nat → Int32} {J : xMi} {X : Nat → Nat → Int32}
theorem z_inN {s : Int32} {m : Nat} (hm : m < 2 ^ 31) : FX6_in s 0 (nI m - 1) = 0 ↔ (s < 0 ∨ nI m ≤ s) := by
  have em : (nI m).toInt = (m : Int) := nI_toInt hm
  have e1 : (nI m - 1).toInt = (m : Int) - 1 := by rw [fb_subI] <;> rw [em, zi1] <;> omega
  unfold FX6_in
  by_cases h1 : s < 0
  · rw [if_pos h1]; exact ⟨fun _ => Or.inl h1, fun _ => rfl⟩
  · rw [if_neg h1]
    by_cases h2 : nI m - 1 < s
    · rw [if_pos h2]
      refine ⟨fun _ => Or.inr ?_, fun _ => rfl⟩
      rw [fa_lt, e1] at h2
      rw [fa_le, em]; omega
    · rw [if_neg h2]
      refine ⟨fun q => absurd q (by decide), fun q => ?_⟩
      rw [fa_lt, e1] at h2
      rcases q with q | q
      · exact absurd q h1
      · rw [fa_le, em] at q; omega
/-- a series is asked for: there is none such, or it is the j-th -/
theorem z_isSer (h : zRel0 cn rn Ln p n U N I V J X) (s : Int32) : (FX6_isSeries J X s = 0 ∧ (s < 0 ∨ nI N ≤ s)) ∨ (¬ FX6_isSeries J X s = 0 ∧ ∃ j, j < N ∧ s = nI j) := by
  have h6 := h.2.1
  have e : FX6_isSeries J X s = 0 ↔ (s < 0 ∨ nI N ≤ s) := by unfold FX6_isSeries; rw [h6.2.1]; exact z_inN (by omega)
  by_cases z : FX6_isSeries J X s = 0
  · exact Or.inl ⟨z, e.mp z⟩
  · refine Or.inr ⟨z, ?_⟩
    have z2 := fun q => z (e.mpr q)
    rcases pk_ix s (n := N) (by omega) with q | q | q
    · exact absurd (Or.inl q) z2
    · exact absurd (Or.inr q) z2
    · exact q
/-- a point is asked for -/
theorem z_isPt (h : zRel0 cn rn Ln p n U N I V J X) {k : Nat} (hk : k < N) (q : Int32) : (FX3_has (I k) (V k) q = 0 ∧ FX6_isPoint J X (nI k) q = 0) ∨ (FX3_has (I k) (V k) q = 1 ∧ FX6_isPoint J X (nI k) q = 1 ∧ ∃ i, i < (X 11 k).toNatClampNeg ∧ q = nI i) := by
  have s := h.sz hk
  have h6 := h.2.1
  have ns : ¬ FX6_isSeries J X (nI k) = 0 := by
    unfold FX6_isSeries
    rw [h6.2.1, z_inN (by omega)]
    rintro (z | z)
    · exact nI_pos (by omega) z
    · exact nI_ge hk (by omega) z
  unfold FX6_isPoint
  rw [if_neg ns, nI_clamp (by omega)]
  have e : FX6_in q 0 (X 11 k - 1) = 0 ↔ (q < 0 ∨ X 11 k ≤ q) := by
    rw [s.2.1]; exact z_inN (by omega)
  unfold FX3_has
  rw [(h.2.2.2.2.1 k hk).1.2.2.2]
  rcases pk_ix q (n := (X 11 k).toNatClampNeg) (by omega) with z | z | ⟨i, hi, rfl⟩
  · left; rw [if_pos z, if_pos (e.mpr (Or.inl z))]; exact ⟨rfl, rfl⟩
  · left
    rw [← s.2.1] at z
    rw [if_pos (e.mpr (Or.inr z)), if_pos z]
    split <;> exact ⟨rfl, rfl⟩
  · right
    have n1 : ¬ nI i < 0 := nI_pos (by omega)
    have n2 : ¬ X 11 k ≤ nI i := by rw [s.2.1]; exact nI_ge hi (by omega)
    rw [if_neg n1, if_neg n2, if_neg (fun z => (e.mp z).elim n1 n2)]
    exact ⟨rfl, rfl, i, hi, rfl⟩
theorem z_about (h : zRel0 cn rn Ln p n U N I V J X) {k : Nat} (hk : k < N) (q w : Int32) : FX5_aboutJ p n U N I V k q w = FX6_about J X (nI k) q w := by
  have s := h.sz hk
  unfold FX5_aboutJ FX6_about
  rcases z_isPt h hk q with ⟨a, b⟩ | ⟨a, b, i, hi, rfl⟩
  · have e : FX3_isPoint (I k) (V k) q = 0 := by unfold FX3_isPoint; rw [if_pos a]
    rw [if_pos e, if_pos b]
  · have e := ((h.2.2.2.2.1 k hk).2.2.2 i hi).1
    rw [z_pts h hk hi, b, if_neg (show ¬ (1 : Int32) = 0 by decide), z24 s.2.2.1 (by omega), nI_clamp (by omega), e.1, e.2.1, e.2.2.1, z_seen h hk hi, (z_across h hk hi).1, (z_upw h hk hi).1]
    by_cases hg : X 15 (24 * k + i) = 0
    · rw [if_pos hg, if_pos hg, if_neg (show ¬ (1 : Int32) = 0 by decide)]
    · rw [if_neg hg, if_neg hg, if_pos (rfl : (0 : Int32) = 0)]
-- ---- count
theorem z_cntG (h : zRel0 cn rn Ln p n U N I V J X) {k : Nat} (hk : k < N) : ∀ (n9 j a g : Nat) (g2 g3 : Int32), j + n9 = (X 11 k).toNatClampNeg → ∃ P, P ≤ n9 ∧ LX3_points (I k) (V k) n9 j (nI a) = nI (a + P) ∧ LX6_cnt J X (nI k) n9 j (nI g) g2 g3 = (nI (g + (n9 - P)), LX3_runs (I k) (V k) n9 j g2, LX3_seenPoints p (I k) (V k) n9 j g3) := by
  have s := h.sz hk
  intro n9
  induction n9 with
  | zero =>
    intro j a g g2 g3 _
    exact ⟨0, Nat.le_refl _, by rw [LX3_points]; rfl, by rw [LX6_cnt, LX3_runs, LX3_seenPoints]; rfl⟩
  | succ n9 ih =>
    intro j a g g2 g3 hj
    have hi : j < (X 11 k).toNatClampNeg := by omega
    rw [LX3_points, LX6_cnt, LX3_runs, LX3_seenPoints, z24 s.2.2.1 (by omega), z_pts h hk hi, z_seen h hk hi]
    have e3 : (g3 + (if FX6_isSeen J X (nI k) (nI j) = 0 then (0 : Int32) else 1)) = (if FX6_isSeen J X (nI k) (nI j) = 0 then g3 else g3 + 1) := by
      by_cases z : FX6_isSeen J X (nI k) (nI j) = 0
      · rw [if_pos z, if_pos z, Int32.add_zero]
      · rw [if_neg z, if_neg z]
    rw [e3]
    have e2 : (g2 + (if X 15 (24 * k + j) = 0 then (if nI j = 0 then (1 : Int32) else (if X 15 (Int32.toNatClampNeg (((24 : Int32) * nI k + nI j) - 1)) = 0 then (0 : Int32) else 1)) else (0 : Int32))) = (if (if X 15 (24 * k + j) = 0 then (1 : Int32) else 0) = 0 then g2 else (if FX3_isPoint (I k) (V k) (nI j - 1) = 0 then g2 + 1 else g2)) := by
      by_cases hg : X 15 (24 * k + j) = 0
      · rw [if_pos hg, if_pos hg, if_neg (show ¬ (1 : Int32) = 0 by decide)]
        cases j with
        | zero =>
          have e0 : (nI 0 - 1 : Int32) < 0 := by decide
          have hp : FX3_isPoint (I k) (V k) (nI 0 - 1) = 0 := by
            unfold FX3_isPoint FX3_has; rw [if_pos e0, if_pos rfl]
          rw [if_pos (show nI 0 = 0 from rfl), if_pos hp]
        | succ j =>
          have ei : Int32.toNatClampNeg (((24 : Int32) * nI k + nI (j + 1)) - 1) = 24 * k + j := by
            rw [show (24 : Int32) = nI 24 from rfl, pk_mul, nI_add, show 24 * k + (j + 1) = (24 * k + j) + 1 by omega, nI_pred, nI_clamp (by omega)]
          rw [if_neg (nI_ne0 (by omega) (by omega)), ei, nI_pred, z_pts h hk (show j < (X 11 k).toNatClampNeg by omega)]
          by_cases hg2 : X 15 (24 * k + j) = 0
          · rw [if_pos hg2, if_pos hg2, if_neg (show ¬ (1 : Int32) = 0 by decide), Int32.add_zero]
          · rw [if_neg hg2, if_neg hg2, if_pos (rfl : (0 : Int32) = 0)]
      · rw [if_neg hg, if_neg hg, if_pos (rfl : (0 : Int32) = 0), Int32.add_zero]
    rw [e2]
    by_cases hg : X 15 (24 * k + j) = 0
    · rw [if_pos hg, if_pos hg, if_neg (show ¬ (1 : Int32) = 0 by decide), nI_1, Int32.add_zero]
      obtain ⟨P, h1, h2, h3⟩ := ih (j + 1) (a + 1) g _ _ (by omega)
      exact ⟨P + 1, by omega, by rw [h2]; congr 1; omega, by rw [h3]; congr 2; omega⟩
    · rw [if_neg hg, if_neg hg, if_pos (rfl : (0 : Int32) = 0), nI_1]
      obtain ⟨P, h1, h2, h3⟩ := ih (j + 1) a (g + 1) _ _ (by omega)
      exact ⟨P, by omega, h2, by rw [h3]; congr 2; omega⟩
theorem z_cnt (h : zRel0 cn rn Ln p n U N I V J X) {k : Nat} (hk : k < N) : (FX6_cnt J X (nI k)).1 = (I k).2.2.2.1 - FX3_points (I k) (V k) ∧ (FX6_cnt J X (nI k)).2.1 = FX3_runs (I k) (V k) ∧ (FX6_cnt J X (nI k)).2.2 = FX3_seenPoints p (I k) (V k) := by
  have s := h.sz hk
  have ez : (I k).2.2.2.1 = X 11 k := (h.2.2.2.2.1 k hk).1.2.2.2
  obtain ⟨P, h1, h2, h3⟩ := z_cntG h hk (X 11 k).toNatClampNeg 0 0 0 0 0 (by omega)
  unfold FX6_cnt FX3_points FX3_runs FX3_seenPoints
  rw [ez, nI_clamp (show k < 2 ^ 31 by omega)]
  have h3' : LX6_cnt J X (nI k) (X 11 k).toNatClampNeg 0 0 0 0 = _ := h3
  have h2' : LX3_points (I k) (V k) (X 11 k).toNatClampNeg 0 0 = _ := h2
  rw [h3', h2']
  refine ⟨?_, rfl, rfl⟩
  show nI (0 + _) = X 11 k - nI (0 + P)
  rw [s.2.1, nI_clamp (by omega), pk_sub (by omega), Nat.zero_add, Nat.zero_add]
theorem z_cells0 {W : Nat → Nat → Int32} : ∀ (n9 j : Nat) (ac : Int32), j + n9 < 2 ^ 31 → (∀ i, j ≤ i → i < j + n9 → W 7 i = 0) → LX4_cellsHit W n9 j ac = ac := by
  intro n9
  induction n9 with
  | zero => intro j ac _ _; rw [LX4_cellsHit]
  | succ n9 ih =>
    intro j ac hb hz
    rw [LX4_cellsHit, nI_clamp (by omega), if_pos (hz j (by omega) (by omega))]
    exact ih (j + 1) ac (by omega) (fun i h1 h2 => hz i (by omega) (by omega))
theorem z_cells1 {W : Nat → Nat → Int32} {f : Nat → Int32} {k m : Nat} (hk : k < 6) (hf : ∀ q, q < 640 → f (640 * k + q) = W 7 q) : ∀ (n9 j : Nat) (ac : Int32), j + n9 + m ≤ 640 → LX4_cellsHit W (n9 + m) j ac = LX4_cellsHit W m (j + n9) (LX6_hits f (nI k) n9 j ac) := by
  intro n9
  induction n9 with
  | zero => intro j ac _; rw [LX6_hits, Nat.zero_add, Nat.add_zero]
  | succ n9 ih =>
    intro j ac hb
    rw [show n9 + 1 + m = (n9 + m) + 1 by omega, LX4_cellsHit, LX6_hits, ih (j + 1) _ (by omega), nI_clamp (by omega), z640 hk (by omega), hf j (by omega), show j + 1 + n9 = j + (n9 + 1) by omega]
    by_cases z : W 7 j = 0
    · rw [if_pos z, if_pos z, Int32.add_zero]
    · rw [if_neg z, if_neg z]
theorem z_cells (h : zRel0 cn rn Ln p n U N I V J X) {k : Nat} (hk : k < N) : FX4_cellsHit (fV p (I k) (V k)) = FX6_hits J (FX6_draws J X) (nI k) := by
  have h6 := h.2.1
  have d := h.1
  have h640 := z_cn d
  have zd := z_drawn h hk
  have ecr : (J.1 * J.2.1).toNatClampNeg = cn * rn := by rw [d.1.2.2.1, d.1.2.2.2, pk_mul, nI_clamp (by omega)]
  unfold FX4_cellsHit FX6_hits
  rw [ecr]
  have e := z_cells1 (W := fV p (I k) (V k)) (f := (FX6_draws J X).2) (k := k) (m := 640 - cn * rn) (by omega) (fun q hq => (zd q hq).1) (cn * rn) 0 0 (by omega)
  rw [show cn * rn + (640 - cn * rn) = 640 by omega] at e
  rw [e]
  refine z_cells0 _ _ _ (by omega) (fun i h1 h2 => ?_)
  obtain ⟨-, a, b, e1, -, -, -, e2, -⟩ := zd i (by omega)
  show (FX3_draw p (I k) (V k)).2 i = 0
  rw [e1, e2 (by omega)]; rfl
-- ---- fit
def mn9 (a b : Int32) : Int32 := if b < a then b else a
def mx9 (a b : Int32) : Int32 := if a < b then b else a
theorem mn9_i (a b : Int32) : (mn9 a b).toInt = if b.toInt < a.toInt then b.toInt else a.toInt := by
  unfold mn9
  by_cases h : b < a
  · rw [if_pos h, if_pos (by rw [fa_lt] at h; exact h)]
  · rw [if_neg h, if_neg (by rw [fa_lt] at h; exact h)]
theorem mx9_i (a b : Int32) : (mx9 a b).toInt = if a.toInt < b.toInt then b.toInt else a.toInt := by
  unfold mx9
  by_cases h : a < b
  · rw [if_pos h, if_pos (by rw [fa_lt] at h; exact h)]
  · rw [if_neg h, if_neg (by rw [fa_lt] at h; exact h)]
theorem mn9_as (a b c : Int32) : mn9 (mn9 a b) c = mn9 a (mn9 b c) := zinj (by simp only [mn9_i]; repeat' split <;> omega)
theorem mx9_as (a b c : Int32) : mx9 (mx9 a b) c = mx9 a (mx9 b c) := zinj (by simp only [mx9_i]; repeat' split <;> omega)
/-- the value of a point on an axis -/
def zLo (W : Nat → Nat → Int32) (ax : Int32) (j : Nat) : Int32 := if ax = 0 then W 1 j else (if (-1000000 : Int32) < W 2 j - W 3 j then W 2 j - W 3 j else (-1000000 : Int32))
def zHi (W : Nat → Nat → Int32) (ax : Int32) (j : Nat) : Int32 := if ax = 0 then W 1 j else (if W 2 j + W 3 j < (1000000 : Int32) then W 2 j + W 3 j else (1000000 : Int32))
theorem z_least {A : xSi} {W : Nat → Nat → Int32} {ax : Int32} : ∀ (n9 j : Nat) (ac : Int32), j + n9 < 2 ^ 31 → LX3_leastOn A W ax (n9 + 1) j ac = LX3_leastOn A W ax n9 (j + 1) (if FX3_isPoint A W (nI j) = 0 then ac else mn9 ac (zLo W ax j)) := by
  intro n9 j ac hb
  rw [LX3_leastOn, nI_clamp (by omega)]
  rfl
theorem z_great {A : xSi} {W : Nat → Nat → Int32} {ax : Int32} : ∀ (n9 j : Nat) (ac : Int32), j + n9 < 2 ^ 31 → LX3_greatestOn A W ax (n9 + 1) j ac = LX3_greatestOn A W ax n9 (j + 1) (if FX3_isPoint A W (nI j) = 0 then ac else mx9 ac (zHi W ax j)) := by
  intro n9 j ac hb
  rw [LX3_greatestOn, nI_clamp (by omega)]
  rfl
theorem z_leastM {A : xSi} {W : Nat → Nat → Int32} {ax : Int32} : ∀ (n9 j : Nat) (a b : Int32), j + n9 < 2 ^ 31 → LX3_leastOn A W ax n9 j (mn9 a b) = mn9 a (LX3_leastOn A W ax n9 j b) := by
  intro n9
  induction n9 with
  | zero => intro j a b _; rw [LX3_leastOn, LX3_leastOn]
  | succ n9 ih =>
    intro j a b hb
    rw [z_least _ _ _ (by omega), z_least _ _ _ (by omega)]
    by_cases z : FX3_isPoint A W (nI j) = 0
    · rw [if_pos z, if_pos z]; exact ih (j + 1) a b (by omega)
    · rw [if_neg z, if_neg z, mn9_as]; exact ih (j + 1) a _ (by omega)
theorem z_greatM {A : xSi} {W : Nat → Nat → Int32} {ax : Int32} : ∀ (n9 j : Nat) (a b : Int32), j + n9 < 2 ^ 31 → LX3_greatestOn A W ax n9 j (mx9 a b) = mx9 a (LX3_greatestOn A W ax n9 j b) := by
  intro n9
  induction n9 with
  | zero => intro j a b _; rw [LX3_greatestOn, LX3_greatestOn]
  | succ n9 ih =>
    intro j a b hb
    rw [z_great _ _ _ (by omega), z_great _ _ _ (by omega)]
    by_cases z : FX3_isPoint A W (nI j) = 0
    · rw [if_pos z, if_pos z]; exact ih (j + 1) a b (by omega)
    · rw [if_neg z, if_neg z, mx9_as]; exact ih (j + 1) a _ (by omega)
theorem z_fitI (h : zRel0 cn rn Ln p n U N I V J X) {k : Nat} (hk : k < N) {ax : Int32} : ∀ (n9 j : Nat) (lo hi : Int32), j + n9 = (X 11 k).toNatClampNeg → LX6_fitI X ax k n9 j lo hi = (LX3_leastOn (I k) (V k) ax n9 j lo, LX3_greatestOn (I k) (V k) ax n9 j hi) := by
  have s := h.sz hk
  intro n9
  induction n9 with
  | zero => intro j lo hi _; rw [LX6_fitI, LX3_leastOn, LX3_greatestOn]
  | succ n9 ih =>
    intro j lo hi hj
    have hi' : j < (X 11 k).toNatClampNeg := by omega
    obtain ⟨e, b1, b2, b3⟩ := (h.2.2.2.2.1 k hk).2.2.2 j hi'
    have m6 : (-1000000 : Int32).toInt = -1000000 := rfl
    have p6 : (1000000 : Int32).toInt = 1000000 := rfl
    rw [LX6_fitI, z_least _ _ _ (by omega), z_great _ _ _ (by omega), z_pts h hk hi', ← e.1, ← e.2.1, ← e.2.2.1]
    by_cases hg : X 15 (24 * k + j) = 0
    · rw [if_pos hg, if_pos hg, if_neg (show ¬ (1 : Int32) = 0 by decide), if_neg (show ¬ (1 : Int32) = 0 by decide), ih (j + 1) _ _ (by omega)]
      have eL : (if (-1000000 : Int32) ≤ (if ax = 0 then V k 1 j else (V k 2 j - V k 3 j)) then (if ax = 0 then V k 1 j else (V k 2 j - V k 3 j)) else (-1000000 : Int32)) = zLo (V k) ax j := by
        unfold zLo
        by_cases ha : ax = 0
        · rw [if_pos ha, if_pos ha, if_pos (by rw [fa_le, m6]; omega)]
        · rw [if_neg ha, if_neg ha]
          by_cases z : (-1000000 : Int32) < V k 2 j - V k 3 j
          · rw [if_pos z, if_pos (Int32.le_of_lt z)]
          · rw [if_neg z]
            by_cases z2 : (-1000000 : Int32) ≤ V k 2 j - V k 3 j
            · rw [if_pos z2]; rw [fa_lt] at z; rw [fa_le] at z2; exact zinj (by omega)
            · rw [if_neg z2]
      have eH : (if (if ax = 0 then V k 1 j else (V k 2 j + V k 3 j)) ≤ (1000000 : Int32) then (if ax = 0 then V k 1 j else (V k 2 j + V k 3 j)) else (1000000 : Int32)) = zHi (V k) ax j := by
        unfold zHi
        by_cases ha : ax = 0
        · rw [if_pos ha, if_pos ha, if_pos (by rw [fa_le, p6]; omega)]
        · rw [if_neg ha, if_neg ha]
          by_cases z : V k 2 j + V k 3 j < (1000000 : Int32)
          · rw [if_pos z, if_pos (Int32.le_of_lt z)]
          · rw [if_neg z]
            by_cases z2 : V k 2 j + V k 3 j ≤ (1000000 : Int32)
            · rw [if_pos z2]; rw [fa_lt] at z; rw [fa_le] at z2; exact zinj (by omega)
            · rw [if_neg z2]
      rw [eL, eH]
      have fL : (if lo ≤ zLo (V k) ax j then lo else zLo (V k) ax j) = mn9 lo (zLo (V k) ax j) := by
        unfold mn9
        by_cases z : zLo (V k) ax j < lo
        · rw [if_pos z, if_neg (Int32.not_le.mpr z)]
        · rw [if_neg z, if_pos (Int32.not_lt.mp z)]
      have fH : (if zHi (V k) ax j ≤ hi then hi else zHi (V k) ax j) = mx9 hi (zHi (V k) ax j) := by
        unfold mx9
        by_cases z : hi < zHi (V k) ax j
        · rw [if_pos z, if_neg (Int32.not_le.mpr z)]
        · rw [if_neg z, if_pos (Int32.not_lt.mp z)]
      rw [fL, fH]
    · rw [if_neg hg, if_neg hg, if_pos (rfl : (0 : Int32) = 0), if_pos (rfl : (0 : Int32) = 0)]
      exact ih (j + 1) _ _ (by omega)
theorem z_loB {W : Nat → Nat → Int32} {ax : Int32} {j : Nat} (h1 : -1000000 ≤ (W 1 j).toInt ∧ (W 1 j).toInt ≤ 1000000) (h2 : -1000000 ≤ (W 2 j).toInt ∧ (W 2 j).toInt ≤ 1000000) (h3 : 0 ≤ (W 3 j).toInt ∧ (W 3 j).toInt ≤ 1000000) : (-1000000 ≤ (zLo W ax j).toInt ∧ (zLo W ax j).toInt ≤ 1000000) ∧ (-1000000 ≤ (zHi W ax j).toInt ∧ (zHi W ax j).toInt ≤ 1000000) := by
  have e1 : (W 2 j - W 3 j).toInt = (W 2 j).toInt - (W 3 j).toInt := fb_subI (by omega) (by omega)
  have e2 : (W 2 j + W 3 j).toInt = (W 2 j).toInt + (W 3 j).toInt := fb_addI (by omega) (by omega)
  have m6 : (-1000000 : Int32).toInt = -1000000 := rfl
  have p6 : (1000000 : Int32).toInt = 1000000 := rfl
  constructor
  · unfold zLo
    split
    · exact h1
    · split
      · rename_i z; rw [fa_lt, m6, e1] at z; omega
      · rw [m6]; omega
  · unfold zHi
    split
    · exact h1
    · split
      · rename_i z; rw [fa_lt, p6, e2] at z; omega
      · rw [p6]; omega
theorem z_lstB (h : zRel0 cn rn Ln p n U N I V J X) {k : Nat} (hk : k < N) {ax : Int32} : ∀ (n9 j : Nat) (lo hi : Int32), j + n9 = (X 11 k).toNatClampNeg → (-1000000 ≤ lo.toInt → -1000000 ≤ (LX3_leastOn (I k) (V k) ax n9 j lo).toInt) ∧ (hi.toInt ≤ 1000000 → (LX3_greatestOn (I k) (V k) ax n9 j hi).toInt ≤ 1000000) ∧ (LX3_leastOn (I k) (V k) ax n9 j lo).toInt ≤ lo.toInt ∧ hi.toInt ≤ (LX3_greatestOn (I k) (V k) ax n9 j hi).toInt := by
  have s := h.sz hk
  intro n9
  induction n9 with
  | zero => intro j lo hi _; rw [LX3_leastOn, LX3_greatestOn]; exact ⟨id, id, Int.le_refl _, Int.le_refl _⟩
  | succ n9 ih =>
    intro j lo hi hj
    have hi' : j < (X 11 k).toNatClampNeg := by omega
    obtain ⟨e, b1, b2, b3⟩ := (h.2.2.2.2.1 k hk).2.2.2 j hi'
    have zb := z_loB (W := V k) (ax := ax) b1 b2 b3
    rw [z_least _ _ _ (by omega), z_great _ _ _ (by omega)]
    by_cases z : FX3_isPoint (I k) (V k) (nI j) = 0
    · rw [if_pos z, if_pos z]; exact ih (j + 1) lo hi (by omega)
    · rw [if_neg z, if_neg z]
      have i := ih (j + 1) (mn9 lo (zLo (V k) ax j)) (mx9 hi (zHi (V k) ax j)) (by omega)
      have m1 := mn9_i lo (zLo (V k) ax j)
      have m2 := mx9_i hi (zHi (V k) ax j)
      refine ⟨fun q => i.1 ?_, fun q => i.2.1 ?_, ?_, ?_⟩
      · rw [m1]; split <;> omega
      · rw [m2]; split <;> omega
      · have := i.2.2.1; rw [m1] at this; split at this <;> omega
      · have := i.2.2.2; rw [m2] at this; split at this <;> omega
theorem z_fitO (h : zRel0 cn rn Ln p n U N I V J X) {ax : Int32} : ∀ (n9 k : Nat) (lo hi : Int32), k + n9 = N → lo.toInt ≤ 1000001 → -1000001 ≤ hi.toInt → -1000000 ≤ lo.toInt → hi.toInt ≤ 1000000 → LX6_fitO X ax n9 k lo hi = LX5_fit I V ax n9 k lo hi ∧ -1000000 ≤ (LX5_fit I V ax n9 k lo hi).1.toInt ∧ (LX5_fit I V ax n9 k lo hi).2.toInt ≤ 1000000 := by
  intro n9
  induction n9 with
  | zero => intro k lo hi _ _ _ h3 h4; rw [LX6_fitO, LX5_fit]; exact ⟨rfl, h3, h4⟩
  | succ n9 ih =>
    intro k lo hi hk h1 h2 h3 h4
    have hkN : k < N := by omega
    have s := h.sz hkN
    have ez : (I k).2.2.2.1 = X 11 k := (h.2.2.2.2.1 k hkN).1.2.2.2
    have b := z_lstB h hkN (ax := ax) (X 11 k).toNatClampNeg 0 lo hi (by omega)
    rw [LX6_fitO, LX5_fit, z_fitI h hkN _ 0 lo hi (by omega)]
    have p1 : (1000001 : Int32).toInt = 1000001 := rfl
    have q1 : (-1000001 : Int32).toInt = -1000001 := rfl
    have e1 : LX3_leastOn (I k) (V k) ax (X 11 k).toNatClampNeg 0 lo = (if FX3_leastOn (I k) (V k) ax < lo then FX3_leastOn (I k) (V k) ax else lo) := by
      have z := z_leastM (A := I k) (W := V k) (ax := ax) (X 11 k).toNatClampNeg 0 lo 1000001 (by omega)
      have e0 : mn9 lo 1000001 = lo := by unfold mn9; rw [if_neg (by rw [fa_lt, p1]; omega)]
      rw [e0] at z
      rw [z]
      unfold FX3_leastOn mn9
      rw [ez]
    have e2 : LX3_greatestOn (I k) (V k) ax (X 11 k).toNatClampNeg 0 hi = (if hi < FX3_greatestOn (I k) (V k) ax then FX3_greatestOn (I k) (V k) ax else hi) := by
      have z := z_greatM (A := I k) (W := V k) (ax := ax) (X 11 k).toNatClampNeg 0 hi (-1000001) (by omega)
      have e0 : mx9 hi (-1000001) = hi := by unfold mx9; rw [if_neg (by rw [fa_lt, q1]; omega)]
      rw [e0] at z
      rw [z]
      unfold FX3_greatestOn mx9
      rw [ez]
    rw [e1] at b ⊢
    rw [e2] at b ⊢
    exact ih (k + 1) _ _ (by omega) (Int.le_trans b.2.2.1 h1) (Int.le_trans h2 b.2.2.2) (b.1 h3) (b.2.1 h4)
theorem z_fit (h : zRel0 cn rn Ln p n U N I V J X) (ax : Int32) : FX6_fitR J X ax = fitR N I V ax ∧ -1000000 ≤ (fitR N I V ax).1.toInt ∧ (fitR N I V ax).2.toInt ≤ 1000000 := by
  unfold FX6_fitR fitR
  rw [h.2.1.2.1, nI_clamp (by have := h.2.1; omega)]
  exact z_fitO h N 0 1000001 (-1000001) (by omega) (by decide) (by decide) (by decide) (by decide)
end ZT
