/-! BOTH: the class and the reference in one heap; what only reads -/
/-- the reference's cells are none of the class's -/
def zDj (sc pg sx sy al ed : Nat) (C : Nat → Nat) (B : Nat → Nat → Nat) (A : Nat → Nat) : Prop := ∀ k, (∀ i j, A k ≠ B i j) ∧ (∀ i, A k ≠ C i) ∧ A k ≠ sc ∧ A k ≠ pg ∧ A k ≠ sx ∧ A k ≠ sy ∧ A k ≠ al ∧ A k ≠ ed
def zSt (G : xG) (sc pg sx sy al ed : Nat) (C : Nat → Nat) (B : Nat → Nat → Nat) (p : xPv) (n : Int32) (U : Nat → Nat → Int32) (md : Int32) (N : Nat) (I : Nat → xSi) (V : Nat → Nat → Nat → Int32) (A : Nat → Nat) (J : xMi) (X : Nat → Nat → Int32) (cn rn Ln : Nat) (h : xH) : Prop :=
  xCls G sc pg sx sy al ed C B p n U md N I V h ∧ xMod G A J X h ∧ xDs sc pg sx sy al ed C B ∧ (∀ i j : Nat, i ≠ j → A i ≠ A j) ∧ zDj sc pg sx sy al ed C B A ∧ zRel cn rn Ln p n U N I V J X ∧ (N = 0 → ed = xT3 G)
def zInv (G : xG) (sc sm : Nat) (h : xH) : Prop := ∃ (pg sx sy al ed : Nat) (C : Nat → Nat) (B : Nat → Nat → Nat) (p : xPv) (n : Int32) (U : Nat → Nat → Int32) (md : Int32) (N : Nat) (I : Nat → xSi) (V : Nat → Nat → Nat → Int32) (A : Nat → Nat) (J : xMi) (X : Nat → Nat → Int32) (cn rn Ln : Nat), A 0 = sm ∧ zSt G sc pg sx sy al ed C B p n U md N I V A J X cn rn Ln h
/-- the reference, called on the heap behind the class's call, answers v, and both stand alike again -/
def zR6 (G : xG) (l : Launch) (m6 : xM) (L6 : List Value) (sc sm : Nat) (v : Value) (h1 : xH) : Prop := (∃ fs, h1 sm = some (.inr (7, fs))) ∧ ∀ Q2 : Option Value → xH → Prop, (∀ h2, zInv G sc sm h2 → Q2 (some v) h2) → xV G l m6 10 0 0 0 0 0 L6 [] h1 Q2
section ZI
variable {G : xG} {l : Launch} {sc pg sx sy al ed : Nat} {C : Nat → Nat} {B : Nat → Nat → Nat} {p : xPv} {n : Int32} {U : Nat → Nat → Int32} {md : Int32} {N : Nat} {I : Nat → xSi} {V : Nat → Nat → Nat → Int32} {A : Nat → Nat} {J : xMi} {X : Nat → Nat → Int32} {cn rn Ln : Nat} {h h1 : xH}
theorem xMod.frK (hM : xMod G A J X h) (hj : zDj sc pg sx sy al ed C B A) (hF : xfrK sc pg sx sy al ed C B h h1) : xMod G A J X h1 := by
  have e : ∀ k, h1 (A k) = h (A k) := fun k => hF _ (hj k).1 (hj k).2.1 (hj k).2.2.1 (hj k).2.2.2.1 (hj k).2.2.2.2.1 (hj k).2.2.2.2.2.1 (hj k).2.2.2.2.2.2.1 (hj k).2.2.2.2.2.2.2
  exact ⟨(e 0).trans hM.1, fun k hk => (e k).trans (hM.2 k hk)⟩
theorem xfrC.K (hF : xfrC B h h1) : xfrK sc pg sx sy al ed C B h h1 := fun a eB _ _ _ _ _ _ _ => hF a eB
theorem xfrK.rf : xfrK sc pg sx sy al ed C B h h := fun _ _ _ _ _ _ _ _ _ => rfl
theorem xCls.frM (hK : xCls G sc pg sx sy al ed C B p n U md N I V h) (hj : zDj sc pg sx sy al ed C B A) (hF : xfM A h h1) : xCls G sc pg sx sy al ed C B p n U md N I V h1 := by
  obtain ⟨k1, k2, k3, k4, k5, k6, k7⟩ := hK
  have eB : ∀ i j, h1 (B i j) = h (B i j) := fun i j => hF _ (fun k => Ne.symm ((hj k).1 i j))
  have eC : ∀ i, h1 (C i) = h (C i) := fun i => hF _ (fun k => Ne.symm ((hj k).2.1 i))
  have e1 := hF sc (fun k => Ne.symm (hj k).2.2.1)
  have e2 := hF pg (fun k => Ne.symm (hj k).2.2.2.1)
  have e3 := hF sx (fun k => Ne.symm (hj k).2.2.2.2.1)
  have e4 := hF sy (fun k => Ne.symm (hj k).2.2.2.2.2.1)
  have e5 := hF al (fun k => Ne.symm (hj k).2.2.2.2.2.2.1)
  have e6 := hF ed (fun k => Ne.symm (hj k).2.2.2.2.2.2.2)
  refine ⟨e1.trans k1, ⟨e2.trans k2.1, e3.trans k2.2.1, e4.trans k2.2.2⟩, ⟨(eC _).trans k3.1, (eC _).trans k3.2.1, (eC _).trans k3.2.2.1, (eC _).trans k3.2.2.2.1, (eC _).trans k3.2.2.2.2.1, (eC _).trans k3.2.2.2.2.2⟩, e5.trans k4, fun z => e6.trans (k5 z), fun k hk => ?_, k7⟩
  have h0 := k6 k hk
  exact ⟨(eB _ _).trans h0.1, (eB _ _).trans h0.2.1, (eB _ _).trans h0.2.2.1, (eB _ _).trans h0.2.2.2.1, (eB _ _).trans h0.2.2.2.2.1, (eB _ _).trans h0.2.2.2.2.2.1, (eB _ _).trans h0.2.2.2.2.2.2.1, (eB _ _).trans h0.2.2.2.2.2.2.2⟩
theorem zSt.inv (hs : zSt G sc pg sx sy al ed C B p n U md N I V A J X cn rn Ln h) : zInv G sc (A 0) h := ⟨pg, sx, sy, al, ed, C, B, p, n, U, md, N, I, V, A, J, X, cn, rn, Ln, rfl, hs⟩
/-- the class has moved from h to h1, then the reference from h1 on -/
theorem zR6.of {m6 : xM} {L6 : List Value} {v : Value} {p' : xPv} {n' : Int32} {U' : Nat → Nat → Int32} {md' : Int32} {I' : Nat → xSi} {V' : Nat → Nat → Nat → Int32} (hs : zSt G sc pg sx sy al ed C B p n U md N I V A J X cn rn Ln h) (hK1 : xCls G sc pg sx sy al ed C B p' n' U' md' N I' V' h1) (hF1 : xfrK sc pg sx sy al ed C B h h1)
    (kk : xMod G A J X h1 → ∀ Q2 : Option Value → xH → Prop, (∀ (h2 : xH) (J' : xMi) (X' : Nat → Nat → Int32) (cn' rn' Ln' : Nat), xMod G A J' X' h2 → xfM A h1 h2 → zRel cn' rn' Ln' p' n' U' N I' V' J' X' → Q2 (some v) h2) → xV G l m6 10 0 0 0 0 0 L6 [] h1 Q2) : zR6 G l m6 L6 sc (A 0) v h1 := by
  obtain ⟨hK, hM, hD, hA, hj, hr, he⟩ := hs
  have hM1 := hM.frK hj hF1
  refine ⟨⟨_, hM1.1⟩, fun Q2 hQ2 => kk hM1 Q2 (fun h2 J' X' cn' rn' Ln' hM2 hF2 hr2 => hQ2 h2 (zSt.inv ⟨hK1.frM hj hF2, hM2, hD, hA, hj, hr2, he⟩))⟩
/-- nothing has moved -/
theorem zR6.same {m6 : xM} {L6 : List Value} {v : Value} (hs : zSt G sc pg sx sy al ed C B p n U md N I V A J X cn rn Ln h) (kk : ∀ Q2 : Option Value → xH → Prop, Q2 (some v) h → xV G l m6 10 0 0 0 0 0 L6 [] h Q2) : zR6 G l m6 L6 sc (A 0) v h :=
  ⟨⟨_, hs.2.1.1⟩, fun Q2 hQ2 => kk Q2 (hQ2 h hs.inv)⟩
theorem zSt.rdy (hs : zSt G sc pg sx sy al ed C B p n U md N I V A J X cn rn Ln h) : mRdy J X := hs.2.2.2.2.2.1.rdy
theorem z_axis (ax : Int32) : (ax = 0 ∧ ¬ FX6_isAxis ax = 0) ∨ (ax = 1 ∧ ¬ FX6_isAxis ax = 0) ∨ (¬ ax = 0 ∧ ¬ ax = 1 ∧ FX6_isAxis ax = 0) := by
  by_cases h0 : ax = 0
  · exact Or.inl ⟨h0, by rw [h0]; decide⟩
  · by_cases h1 : ax = 1
    · exact Or.inr (Or.inl ⟨h1, by rw [h1]; decide⟩)
    · refine Or.inr (Or.inr ⟨h0, h1, Classical.byContradiction fun z => ?_⟩)
      have z := in_iff.mp z
      rw [fa_lt, fa_lt, zi0, zi1] at z
      have : ax.toInt = 0 ∨ ax.toInt = 1 := by omega
      rcases this with q | q
      · exact h0 (zinj q)
      · exact h1 (zinj q)
theorem z_style (w v : Int32) : FX5_isStyle w v = FX6_isStyle w v := by
  have e : ∀ a b : Int32, (if FX6_in v a b = 0 then (0 : Int32) else 1) = FX5_within v a b := fun a b => by
    show (if FX5_within v a b = 0 then (0 : Int32) else 1) = FX5_within v a b
    unfold FX5_within
    by_cases h1 : v < a
    · rw [if_pos h1, if_pos rfl]
    · rw [if_neg h1]
      by_cases h2 : b < v
      · rw [if_pos h2, if_pos rfl]
      · rw [if_neg h2, if_neg (by decide)]
  unfold FX5_isStyle FX6_isStyle
  rw [e]; rfl
theorem z_cellH (hr : zRel0 cn rn Ln p n U N I V J X) (x y : Int32) : (FX1_has p x y = 0 ∧ FX6_isCell J X x y = 0) ∨ (¬ FX1_has p x y = 0 ∧ ¬ FX6_isCell J X x y = 0 ∧ ∃ j r : Nat, j < cn ∧ r < rn ∧ x = nI j ∧ y = nI r) := by
  have d := hr.1
  have dd := d.2
  by_cases z : FX6_isCell J X x y = 0
  · left
    refine ⟨Classical.byContradiction fun q => ?_, z⟩
    have b := (z_hasX hr).mp q
    have e1 : (J.1 - 1).toInt = (cn : Int) - 1 := by
      have : J.1.toInt = cn := by rw [d.1.2.2.1, nI_toInt (by omega)]
      rw [fb_subI] <;> rw [this, zi1] <;> omega
    have e2 : (J.2.1 - 1).toInt = (rn : Int) - 1 := by
      have : J.2.1.toInt = rn := by rw [d.1.2.2.2, nI_toInt (by omega)]
      rw [fb_subI] <;> rw [this, zi1] <;> omega
    have i1 : ¬ FX6_in x 0 (J.1 - 1) = 0 := in_iff.mpr ⟨by rw [fa_lt, zi0]; omega, by rw [fa_lt, e1]; omega⟩
    have i2 : ¬ FX6_in y 0 (J.2.1 - 1) = 0 := in_iff.mpr ⟨by rw [fa_lt, zi0]; omega, by rw [fa_lt, e2]; omega⟩
    unfold FX6_isCell at z
    rw [if_neg i1, if_neg i2] at z
    exact absurd z (by decide)
  · right
    obtain ⟨j, r, h1, h2, h3, h4⟩ := mcell_of d.1.2.2.1 d.1.2.2.2 d.2.2.1 d.2.2.2.2 z
    refine ⟨(z_hasX hr).mpr ?_, z, j, r, h1, h2, h3, h4⟩
    rw [h3, h4, nI_toInt (by omega), nI_toInt (by omega)]
    omega
end ZI
section ZJ
variable {G : xG} {l : Launch} {sc sm : Nat} {h : xH} {Q : Option Value → xH → Prop}
theorem zInv.rc (hi : zInv G sc sm h) : ∃ fs, h sc = some (.inr (6, fs)) := by
  obtain ⟨pg, sx, sy, al, ed, C, B, p, n, U, md, N, I, V, A, J, X, cn, rn, Ln, -, hs⟩ := hi
  exact ⟨_, hs.1.1⟩
theorem zc_place {ax v : Int32} (hi : zInv G sc sm h) (hQ : ∀ (i : Int32) (h1 : xH), zR6 G l mX6_place [.ref sm, .int ax, .int v] sc sm (.int i) h1 → Q (some (.int i)) h1) : xV G l mX5_place 10 0 0 0 0 0 [.ref sc, .int ax, .int v, xU] [] h Q := by
  obtain ⟨pg, sx, sy, al, ed, C, B, p, n, U, md, N, I, V, A, J, X, cn, rn, Ln, rfl, hs⟩ := hi
  have hr := hs.2.2.2.2.2.1.1
  refine kX5_place (d := 8) hs.1 (hQ _ h (zR6.same hs fun Q2 hQ2 => kX6_place (d := 6) hs.2.1 hs.rdy.2.1 (xri ?_ hQ2)))
  unfold FX6_place FX5_place
  rcases z_axis ax with ⟨rfl, z⟩ | ⟨rfl, z⟩ | ⟨z0, z1, z⟩
  · rw [if_neg z, if_pos rfl, z_plR hr.2.2.1.1 hr.2.2.1.2.2.1]
  · rw [if_neg z, if_neg (show ¬ (1 : Int32) = 0 by decide), if_pos rfl, z_plR hr.2.2.1.2.1 hr.2.2.1.2.2.2]
  · rw [if_pos z, if_neg z0, if_neg z1]
theorem zc_value {ax v : Int32} (hi : zInv G sc sm h) (hQ : ∀ (i : Int32) (h1 : xH), zR6 G l mX6_value [.ref sm, .int ax, .int v, xU, xU, xU, xU, xU, xU, xU] sc sm (.int i) h1 → Q (some (.int i)) h1) : xV G l mX5_value 10 0 0 0 0 0 [.ref sc, .int ax, .int v, xU] [] h Q := by
  obtain ⟨pg, sx, sy, al, ed, C, B, p, n, U, md, N, I, V, A, J, X, cn, rn, Ln, rfl, hs⟩ := hi
  have hr := hs.2.2.2.2.2.1.1
  have hfd : ∀ S : xS, (S = p.2.2.1 ∨ S = p.2.2.2) → ¬ S.2.2.2.2.2 < 2 → ¬ 2 * (S.2.2.2.2.2 - 1) = 0 := by
    intro S hS _ z
    have ok : zOk S := by
      rcases hS with rfl | rfl
      · exact hr.2.2.1.1
      · exact hr.2.2.1.2.1
    have d := ok.2.2.2
    have m2 : (S.2.2.2.2.2 - 1).toInt = S.2.2.2.2.2.toInt - 1 := by rw [fb_subI] <;> rw [zi1] <;> omega
    have z2 := congrArg Int32.toInt z
    rw [fb_mulI (by rw [zi2, m2]; omega) (by rw [zi2, m2]; omega), zi2, m2, zi0] at z2
    omega
  have sp : ∀ S : xS, zOk S → zAx S J X ax → FX6_span J X ax = qN (zS S).toNat := fun S ok hx => by
    have b := z_l0 ok
    refine Int64.toInt_inj.mp ?_
    rw [(z_spanL ok hx).1, qN_toInt (by omega)]; omega
  have b1 := z_l0 hr.2.2.1.1
  have b2 := z_l0 hr.2.2.1.2.1
  rcases z_axis ax with ⟨rfl, z⟩ | ⟨rfl, z⟩ | ⟨z0, z1, z⟩
  · refine kX5_value (d := 7) hs.1 hfd (hQ _ h (zR6.same hs fun Q2 hQ2 => kX6_value (d := 6) (sp := (zS p.2.2.1).toNat) hs.2.1 hs.rdy.2.1 (fun _ => sp _ hr.2.2.1.1 hr.2.2.1.2.2.1) (by omega) (xri ?_ hQ2)))
    rw [z_valR hr.2.2.1.1 hr.2.2.1.2.2.1 z]
    unfold FX5_value
    rw [if_pos rfl]
  · refine kX5_value (d := 7) hs.1 hfd (hQ _ h (zR6.same hs fun Q2 hQ2 => kX6_value (d := 6) (sp := (zS p.2.2.2).toNat) hs.2.1 hs.rdy.2.1 (fun _ => sp _ hr.2.2.1.2.1 hr.2.2.1.2.2.2) (by omega) (xri ?_ hQ2)))
    rw [z_valR hr.2.2.1.2.1 hr.2.2.1.2.2.2 z]
    unfold FX5_value
    rw [if_neg (show ¬ (1 : Int32) = 0 by decide), if_pos (rfl : (1 : Int32) = 1)]
  · refine kX5_value (d := 7) hs.1 hfd (hQ _ h (zR6.same hs fun Q2 hQ2 => kX6_value (d := 6) (sp := 0) hs.2.1 hs.rdy.2.1 (fun q => ?_) (by decide) (xri ?_ hQ2)))
    · obtain ⟨k, hk, e⟩ := vp_in_of q (by decide)
      rcases (show k = 0 ∨ k = 1 by omega) with rfl | rfl
      · exact absurd e z0
      · exact absurd e z1
    · unfold FX6_value FX5_value
      rw [if_pos z, if_neg z0, if_neg z1]
theorem zc_step {ax m : Int32} (hi : zInv G sc sm h) (hQ : ∀ (i : Int32) (h1 : xH), zR6 G l mX6_step [.ref sm, .int ax, .int m] sc sm (.int i) h1 → Q (some (.int i)) h1) : xV G l mX5_step 10 0 0 0 0 0 [.ref sc, .int ax, .int m, xU] [] h Q := by
  obtain ⟨pg, sx, sy, al, ed, C, B, p, n, U, md, N, I, V, A, J, X, cn, rn, Ln, rfl, hs⟩ := hi
  have hr := hs.2.2.2.2.2.1.1
  have hst : vp_in ax 2 → ¬ FX6_in m 2 20 = 0 → FX6_ticks J X ax 2000000 ≤ m := fun hax hm => by
    obtain ⟨k, hk, rfl⟩ := vp_in_of hax (by decide)
    rcases (show k = 0 ∨ k = 1 by omega) with rfl | rfl
    · exact z_last hr.2.2.1.1 hr.2.2.1.2.2.1 hm
    · exact z_last hr.2.2.1.2.1 hr.2.2.1.2.2.2 hm
  refine kX5_step (d := 6) hs.1 (hQ _ h (zR6.same hs fun Q2 hQ2 => kX6_step (d := 6) hs.2.1 hst (xri ?_ hQ2)))
  unfold FX6_step FX5_step
  rcases z_axis ax with ⟨rfl, z⟩ | ⟨rfl, z⟩ | ⟨z0, z1, z⟩
  · rw [if_neg z, if_pos rfl, z_step hr.2.2.1.1 hr.2.2.1.2.2.1]; rfl
  · rw [if_neg z, if_neg (show ¬ (1 : Int32) = 0 by decide), if_pos (rfl : (1 : Int32) = 1), z_step hr.2.2.1.2.1 hr.2.2.1.2.2.2]; rfl
  · rw [if_pos z, if_neg z0, if_neg z1]
theorem zc_tick {ax m k : Int32} (hi : zInv G sc sm h) (hQ : ∀ (i : Int32) (h1 : xH), zR6 G l mX6_tick [.ref sm, .int ax, .int m, .int k, xU, xU, xU] sc sm (.int i) h1 → Q (some (.int i)) h1) : xV G l mX5_tick 10 0 0 0 0 0 [.ref sc, .int ax, .int m, .int k, xU] [] h Q := by
  obtain ⟨pg, sx, sy, al, ed, C, B, p, n, U, md, N, I, V, A, J, X, cn, rn, Ln, rfl, hs⟩ := hi
  have hr := hs.2.2.2.2.2.1.1
  have key : ∀ (S : xS) (ax : Int32), zOk S → zAx S J X ax → ¬ FX6_in m 2 20 = 0 → FX6_ticks J X ax 2000000 ≤ m ∧ 0 < (FX6_stepOf J X ax m).toInt ∧ (FX6_stepOf J X ax m).toInt ≤ 2000000 ∧ (X 4 (Int32.toNatClampNeg ax)).toInt ≤ 1000000 ∧ -3000000 ≤ ((-FX6_floor (-X 3 (Int32.toNatClampNeg ax)) (FX6_stepOf J X ax m)) * (FX6_stepOf J X ax m)).toInt := fun S ax ok hx hm => by
    have hb := z_stepB (S := S) m xTick xTick_b
    have e := z_step ok hx m
    have k2 := ok.2.1
    rw [e]
    refine ⟨z_last ok hx hm, hb.1, hb.2, by rw [hx.2.2.1]; omega, ?_⟩
    have hf := z_from ok hx hb.1 hb.2
    have f1 := z_firstM ok (a := S.2.1) hb.1 hb.2 (by omega) (by omega)
    have hf : ((-FX6_floor (-X 3 (Int32.toNatClampNeg ax)) (FX2_stepFor S m)) * (FX2_stepFor S m)).toInt = _ := hf
    rw [hf]
    omega
  have hH : vp_in ax 2 → ¬ FX6_in m 2 20 = 0 → FX6_ticks J X ax 2000000 ≤ m ∧ 0 < (FX6_stepOf J X ax m).toInt ∧ (FX6_stepOf J X ax m).toInt ≤ 2000000 ∧ (X 4 (Int32.toNatClampNeg ax)).toInt ≤ 1000000 ∧ -3000000 ≤ ((-FX6_floor (-X 3 (Int32.toNatClampNeg ax)) (FX6_stepOf J X ax m)) * (FX6_stepOf J X ax m)).toInt := fun hax hm => by
    obtain ⟨k, hk, rfl⟩ := vp_in_of hax (by decide)
    rcases (show k = 0 ∨ k = 1 by omega) with rfl | rfl
    · exact key _ _ hr.2.2.1.1 hr.2.2.1.2.2.1 hm
    · exact key _ _ hr.2.2.1.2.1 hr.2.2.1.2.2.2 hm
  refine kX5_tick (d := 5) hs.1 (hQ _ h (zR6.same hs fun Q2 hQ2 => kX6_tick (d := 5) hs.2.1 hH (xri ?_ hQ2)))
  by_cases hm : FX6_in m 2 20 = 0
  · have hm' : FX5_within m 2 20 = 0 := hm
    unfold FX5_tick FX6_tick
    rw [if_pos hm]
    rcases z_axis ax with ⟨rfl, z⟩ | ⟨rfl, z⟩ | ⟨z0, z1, z⟩
    · rw [if_neg z, if_pos rfl, if_pos hm']
    · rw [if_neg z, if_neg (show ¬ (1 : Int32) = 0 by decide), if_pos (rfl : (1 : Int32) = 1), if_pos hm']
    · rw [if_pos z, if_neg z0, if_neg z1]
  · have hm' : ¬ FX5_within m 2 20 = 0 := hm
    rcases z_axis ax with ⟨rfl, z⟩ | ⟨rfl, z⟩ | ⟨z0, z1, z⟩
    · rw [z_tickR hr.2.2.1.1 hr.2.2.1.2.2.1 z hm]
      unfold FX5_tick
      rw [if_pos rfl, if_neg hm']
    · rw [z_tickR hr.2.2.1.2.1 hr.2.2.1.2.2.2 z hm]
      unfold FX5_tick
      rw [if_neg (show ¬ (1 : Int32) = 0 by decide), if_pos (rfl : (1 : Int32) = 1), if_neg hm']
    · unfold FX5_tick FX6_tick
      rw [if_pos z, if_neg z0, if_neg z1]
theorem zc_told {w : Int32} (hi : zInv G sc sm h) (hQ : ∀ (i : Int32) (h1 : xH), zR6 G l mX6_told [.ref sm, .int w] sc sm (.int i) h1 → Q (some (.int i)) h1) : xV G l mX5_told 10 0 0 0 0 0 [.ref sc, .int w] [] h Q := by
  obtain ⟨pg, sx, sy, al, ed, C, B, p, n, U, md, N, I, V, A, J, X, cn, rn, Ln, rfl, hs⟩ := hi
  have hr := hs.2.2.2.2.2.1.1
  refine kX5_told (d := 9) hs.1 (hQ _ h (zR6.same hs fun Q2 hQ2 => kX6_told hs.2.1 (xri ?_ hQ2)))
  obtain ⟨⟨⟨d1, d2, d3, d4⟩, -⟩, ⟨n1, n2, n3, -⟩, ⟨-, -, s3, s4⟩, -⟩ := hr
  unfold FX6_told FX5_told
  by_cases h0 : w = 0
  · rw [if_pos h0, if_pos h0, n2]
  rw [if_neg h0, if_neg h0]
  by_cases h0 : w = 1
  · rw [if_pos h0, if_pos h0, n3, n1]
  rw [if_neg h0, if_neg h0]
  by_cases h0 : w = 2
  · rw [if_pos h0, if_pos h0, d1, d3]
  rw [if_neg h0, if_neg h0]
  by_cases h0 : w = 3
  · rw [if_pos h0, if_pos h0, d2, d4]
  rw [if_neg h0, if_neg h0]
  by_cases h0 : w = 4
  · rw [if_pos h0, if_pos h0, h0]; exact s3.1
  rw [if_neg h0, if_neg h0]
  by_cases h0 : w = 5
  · rw [if_pos h0, if_pos h0, h0]; exact s4.1
  rw [if_neg h0, if_neg h0]
  by_cases h0 : w = 6
  · rw [if_pos h0, if_pos h0, h0]; exact s3.2.1
  rw [if_neg h0, if_neg h0]
  by_cases h0 : w = 7
  · rw [if_pos h0, if_pos h0, h0]; exact s4.2.1
  rw [if_neg h0, if_neg h0]
  by_cases h0 : w = 8
  · rw [if_pos h0, if_pos h0, h0]; exact s3.2.2.1
  rw [if_neg h0, if_neg h0]
  by_cases h0 : w = 9
  · rw [if_pos h0, if_pos h0, h0]; exact s4.2.2.1
  rw [if_neg h0, if_neg h0]
theorem zc_labelled {lb w : Int32} (hi : zInv G sc sm h) (hQ : ∀ (i : Int32) (h1 : xH), zR6 G l mX6_labelled [.ref sm, .int lb, .int w] sc sm (.int i) h1 → Q (some (.int i)) h1) : xV G l mX5_labelled 10 0 0 0 0 0 [.ref sc, .int lb, .int w] [] h Q := by
  obtain ⟨pg, sx, sy, al, ed, C, B, p, n, U, md, N, I, V, A, J, X, cn, rn, Ln, rfl, hs⟩ := hi
  have hz := hs.2.2.2.2.2.1
  have hr := hz.1
  have hc := hz.cls
  have rd := hs.rdy
  refine kX5_labelled (d := 9) hs.1 hc.2.2.2.1 hc.2.2.2.2.1 (hQ _ h (zR6.same hs fun Q2 hQ2 => kX6_labelled (d := 9) hs.2.1 rd.2.2.2.2.2.1.1 rd.2.2.2.2.2.1.2 (xri ?_ hQ2)))
  have h6 := hr.2.1
  unfold FX6_labelled FX5_labelled
  rw [h6.2.2.1, h6.1]
  by_cases z : FX6_in lb 0 (nI Ln - 1) = 0
  · have z' : FX5_within lb 0 (nI Ln - 1) = 0 := z
    rw [if_pos z, if_pos z']
  · have z' : ¬ FX5_within lb 0 (nI Ln - 1) = 0 := z
    rw [if_neg z, if_neg z']
    obtain ⟨i, hi, rfl⟩ : ∃ i, i < Ln ∧ lb = nI i := by
      have q := fun r => z ((z_inN (by omega)).mpr r)
      rcases pk_ix lb (n := Ln) (by omega) with a | a | a
      · exact absurd (Or.inl a) q
      · exact absurd (Or.inr a) q
      · exact a
    have lb := (hr.2.2.2.2.2 i hi).1
    rw [nI_clamp (by omega), lb.1, lb.2.1, lb.2.2.1, lb.2.2.2.1, lb.2.2.2.2]
theorem zc_about {s q w : Int32} (hi : zInv G sc sm h) (hQ : ∀ (i : Int32) (h1 : xH), zR6 G l mX6_about [.ref sm, .int s, .int q, .int w] sc sm (.int i) h1 → Q (some (.int i)) h1) : xV G l mX5_about 10 0 0 0 0 0 [.ref sc, .int s, .int q, .int w, xU] [] h Q := by
  obtain ⟨pg, sx, sy, al, ed, C, B, p, n, U, md, N, I, V, A, J, X, cn, rn, Ln, rfl, hs⟩ := hi
  have hz := hs.2.2.2.2.2.1
  have hr := hz.1
  have rd := hs.rdy
  have go : ∀ v : Int32, v = FX6_about J X s q w → zR6 G l mX6_about [.ref (A 0), .int s, .int q, .int w] sc (A 0) (.int v) h := fun v e => zR6.same hs fun Q2 hQ2 => kX6_about (d := 4) hs.2.1 rd.1.2 rd.1.1 rd.2.1 rd.2.2.1 (xri e.symm hQ2)
  rcases z_isSer hr s with ⟨z, hn⟩ | ⟨z, j, hj, rfl⟩
  · refine kX5_aboutN (d := 6) hs.1 hn (hQ _ h (go _ ?_))
    unfold FX5_aboutN FX6_about FX6_isPoint
    rw [if_pos z, if_pos rfl]
  · exact kX5_aboutJ (d := 6) hs.1 hj hz.cls.1 (hQ _ h (go _ (z_about hr hj q w)))
theorem zc_five {s w : Int32} (hi : zInv G sc sm h) (hQ : ∀ (i : Int32) (h1 : xH), zR6 G l mX6_five [.ref sm, .int s, .int w, xU, xU, xU] sc sm (.int i) h1 → Q (some (.int i)) h1) : xV G l mX5_five 10 0 0 0 0 0 [.ref sc, .int s, .int w, xU, xU] [] h Q := by
  obtain ⟨pg, sx, sy, al, ed, C, B, p, n, U, md, N, I, V, A, J, X, cn, rn, Ln, rfl, hs⟩ := hi
  have hz := hs.2.2.2.2.2.1
  have hr := hz.1
  have rd := hs.rdy
  have go : ∀ v : Int32, v = (if FX6_isSeries J X s = 0 then -2000000000 else if FX6_in w 0 4 = 0 then -2000000000 else FX6_five X (Int32.toNatClampNeg s) w) → zR6 G l mX6_five [.ref (A 0), .int s, .int w, xU, xU, xU] sc (A 0) (.int v) h := fun v e => zR6.of hs hs.1 xfrK.rf fun hM1 Q2 hQ2 => by
    refine kX6_five (d := 8) hM1 (fun {i j} e => hs.2.2.2.1 i j e) rd.1.2 rd.1.1 rd.2.2.1 ?_
    have same : Q2 (some (.int v)) h := hQ2 h J X cn rn Ln hM1 xfM.rf hz
    by_cases z : FX6_isSeries J X s = 0
    · rw [if_pos z] at e ⊢; rw [e] at same; exact same
    · rw [if_neg z] at e ⊢
      by_cases z2 : FX6_in w 0 4 = 0
      · rw [if_pos z2] at e ⊢; rw [e] at same; exact same
      · rw [if_neg z2] at e ⊢
        intro h' hM' hF'
        rw [← e]
        refine hQ2 h' J _ cn rn Ln hM' hF' ⟨hr.cong (fun k _ => ⟨rfl, rfl, rfl, rfl⟩) (fun k _ j _ => rfl) rfl rfl rfl rfl (fun k hk => va_up_ne _ _ (by omega)), hz.2.1, fun q => ?_⟩
        have d1 := hz.2.2 q
        refine ⟨d1.1, ?_⟩
        rw [draws_cong (J' := J) (X' := X) rfl rfl rfl (fun k hk => va_up_ne _ _ (by omega))]
        exact d1.2
  rcases z_isSer hr s with ⟨z, hn⟩ | ⟨z, j, hj, rfl⟩
  · refine kX5_fiveN (d := 6) hs.1 hn (hQ _ h (go _ ?_))
    rw [if_pos z]; rfl
  · refine kX5_fiveJ (d := 6) hs.1 hj hz.cls.1 (hQ _ h (go _ ?_))
    rw [if_neg z]
    unfold FX5_fiveJ
    by_cases z2 : FX6_in w 0 4 = 0
    · have z2' : FX5_within w 0 4 = 0 := z2
      rw [if_pos z2, if_pos z2']
    · have z2' : ¬ FX5_within w 0 4 = 0 := z2
      have h6 := hr.2.1
      rw [if_neg z2, if_neg z2', nI_clamp (by omega), z_five hr hj z2]
end ZJ
