/-! PURE: what drawing rests on; the state behind drawing -/
theorem draw_seen {p : xPv} {I I' : xSi} {V V' : Nat → Nat → Int32} (e4 : I.2.2.2.1 = I'.2.2.2.1) (v1 : V 1 = V' 1) (v2 : V 2 = V' 2) (v4 : V 4 = V' 4) (i : Int32) : FX3_isSeen p I V i = FX3_isSeen p I' V' i ∧ FX3_dotAcross p I V i = FX3_dotAcross p I' V' i ∧ FX3_dotUpwards p I V i = FX3_dotUpwards p I' V' i := by
  unfold FX3_isSeen FX3_dotAcross FX3_dotUpwards FX3_isPoint FX3_has
  rw [e4, v1, v2, v4]
  exact ⟨rfl, rfl, rfl⟩
theorem draw_cong {p : xPv} {I I' : xSi} {V V' : Nat → Nat → Int32} (e1 : I.1 = I'.1) (e4 : I.2.2.2.1 = I'.2.2.2.1) (v1 : V 1 = V' 1) (v2 : V 2 = V' 2) (v3 : V 3 = V' 3) (v4 : V 4 = V' 4) : FX3_draw p I V = FX3_draw p I' V' := by
  have hs : ∀ i, FX3_isSeen p I V i = FX3_isSeen p I' V' i := fun i => (draw_seen e4 v1 v2 v4 i).1
  have hd : ∀ (r : xR2) (i : Int32), FX3_drawSeen p I V r i = FX3_drawSeen p I' V' r i := by
    intro r i
    have a := draw_seen (p := p) e4 v1 v2 v4 i
    have b := draw_seen (p := p) e4 v1 v2 v4 (i - 1)
    have ex : ∀ v w : Int32, FX3_endOf p I V v w = FX3_endOf p I' V' v w := fun v w => rfl
    unfold FX3_drawSeen sE1 sE2 sBx sBy sPx sPy
    rw [e1, a.2.1, a.2.2, b.1, b.2.1, b.2.2, ex, ex, v2, v3]
  have key : ∀ (n9 j : Nat) (r : xR2), LX3_draw p I V n9 j r = LX3_draw p I' V' n9 j r := by
    intro n9
    induction n9 with
    | zero => intro j r; rw [LX3_draw, LX3_draw]
    | succ n9 ih => intro j r; rw [LX3_draw, LX3_draw, hs, hd, ih]
  unfold FX3_draw
  rw [e4, key]
theorem place_cong {J J' : xMi} {X X' : Nat → Nat → Int32} (j1 : J.1 = J'.1) (j2 : J.2.1 = J'.2.1) (hX : ∀ k, k ≤ 15 → X k = X' k) (ax v : Int32) : FX6_placeOf J X ax v = FX6_placeOf J' X' ax v := by
  have e2 := hX 2 (by decide)
  have e3 := hX 3 (by decide)
  have e4 := hX 4 (by decide)
  have e5 := hX 5 (by decide)
  have e6 := hX 6 (by decide)
  unfold FX6_placeOf FX6_has FX6_dotOf FX6_dots FX6_span FX6_left
  rw [j1, j2, e2, e3, e4, e5, e6]
theorem draws_cong {J J' : xMi} {X X' : Nat → Nat → Int32} (j1 : J.1 = J'.1) (j2 : J.2.1 = J'.2.1) (j3 : J.2.2.1 = J'.2.2.1) (hX : ∀ k, k ≤ 15 → X k = X' k) : FX6_draws J X = FX6_draws J' X' := by
  have hp : ∀ ax v, FX6_placeOf (mdI J) X ax v = FX6_placeOf (mdI J') X' ax v := place_cong (J := mdI J) (J' := mdI J') j1 j2 hX
  have e8 := hX 8 (by decide)
  have e10 := hX 10 (by decide)
  have e11 := hX 11 (by decide)
  have e12 := hX 12 (by decide)
  have e13 := hX 13 (by decide)
  have e14 := hX 14 (by decide)
  have e15 := hX 15 (by decide)
  have ha : ∀ s q, FX6_across (mdI J) X s q = FX6_across (mdI J') X' s q := fun s q => by unfold FX6_across; rw [hp, e12]
  have hu : ∀ s q, FX6_upwards (mdI J) X s q = FX6_upwards (mdI J') X' s q := fun s q => by unfold FX6_upwards; rw [hp, e13]
  have hs : ∀ s q, FX6_isSeen (mdI J) X s q = FX6_isSeen (mdI J') X' s q := fun s q => by unfold FX6_isSeen; rw [ha, hu, e15]
  have he : ∀ v w, FX6_endOf (mdI J) X v w = FX6_endOf (mdI J') X' v w := fun v w => by unfold FX6_endOf; rw [hp]
  have hc : ∀ s x y, mcell (mdI J) s x y = mcell (mdI J') s x y := fun s x y => by
    show (640 * s) + ((((J.2.1 - 1) - (y / 4)) * J.1) + (x / 2)) = (640 * s) + ((((J'.2.1 - 1) - (y / 4)) * J'.1) + (x / 2))
    rw [j1, j2]
  have hbc : ∀ s x y, mbcell (mdI J) s x y = mbcell (mdI J') s x y := fun s x y => by
    show ((640 * s) + (y * J.1)) + (x / 2) = ((640 * s) + (y * J'.1)) + (x / 2)
    rw [j1]
  have hdot : ∀ (r : xR2) s q x y, mdotR (mdI J) r s q x y = mdotR (mdI J') r s q x y := fun r s q x y => by unfold mdotR; rw [hc]
  have hline : ∀ s q fx fy tx ty m (n9 j : Nat) (r : xR2), LX6_line (mdI J) s q fx fy tx ty m n9 j r = LX6_line (mdI J') s q fx fy tx ty m n9 j r := by
    intro s q fx fy tx ty m n9
    induction n9 with
    | zero => intro j r; rw [LX6_line, LX6_line]
    | succ n9 ih => intro j r; rw [LX6_line, LX6_line, hdot, ih]
  have hl : ∀ (r : xR2) s q fx fy tx ty, FX6_lineOf (mdI J) r s q fx fy tx ty = FX6_lineOf (mdI J') r s q fx fy tx ty := fun r s q fx fy tx ty => by unfold FX6_lineOf; rw [hline]
  have hbr : ∀ (r : xR2) s q x row lf, mbarR (mdI J) r s q x row lf = mbarR (mdI J') r s q x row lf := fun r s q x row lf => by unfold mbarR; rw [hbc]
  have hbar : ∀ s q x (m : Nat) (lf : Int32) (r : xR2), LX6_bar (mdI J) s q x m lf r = LX6_bar (mdI J') s q x m lf r := by
    intro s q x m
    induction m with
    | zero => intro lf r; rw [LX6_bar, LX6_bar]
    | succ m ih => intro lf r; rw [LX6_bar, LX6_bar, hbr, ih]
  have hb : ∀ (r : xR2) s q x y, FX6_bar (mdI J) r s q x y = FX6_bar (mdI J') r s q x y := fun r s q x y => by
    show LX6_bar (mdI J) s q x (J.2.1).toNatClampNeg (2 * (y + 1)) r = LX6_bar (mdI J') s q x (J'.2.1).toNatClampNeg (2 * (y + 1)) r
    rw [j2, hbar]
  have hd : ∀ (r : xR2) s q, FX6_drawsPoint (mdI J) X r s q = FX6_drawsPoint (mdI J') X' r s q := by
    intro r s q
    unfold FX6_drawsPoint mE1 mE2 mBx mBy mPx mPy
    simp only [ha, hu, hs, he, hc, hl, hb, e8, e10, e13, e14]
  have hpts : ∀ (s n9 i : Nat) (r : xR2), LX6_pts (mdI J) X s n9 i r = LX6_pts (mdI J') X' s n9 i r := by
    intro s n9
    induction n9 with
    | zero => intro i r; rw [LX6_pts, LX6_pts]
    | succ n9 ih => intro i r; rw [LX6_pts, LX6_pts, hs, hd, ih]
  have hsers : ∀ (n9 s : Nat) (r : xR2), LX6_sers (mdI J) X n9 s r = LX6_sers (mdI J') X' n9 s r := by
    intro n9
    induction n9 with
    | zero => intro s r; rw [LX6_sers, LX6_sers]
    | succ n9 ih => intro s r; rw [LX6_sers, LX6_sers, hpts, ih, e11]
  unfold FX6_draws
  rw [j3, hsers]
theorem vrM_lo {X : Nat → Nat → Int32} {r : xR2} {k : Nat} (h : k ≠ 23) (h2 : k ≠ 24) : vrM X r k = X k := by
  unfold vrM va_up; rw [if_neg h2, if_neg h]
theorem vrow_lo {V : Nat → Nat → Int32} {r : xR2} {k : Nat} (h : k ≠ 6) (h2 : k ≠ 7) : vrow V r k = V k := by
  unfold vrow va_up; rw [if_neg h2, if_neg h]
/-- the sheets of class and reference show the same -/
def zShow (cn rn N : Nat) (V : Nat → Nat → Nat → Int32) (X : Nat → Nat → Int32) : Prop := ∀ k, k < N → zDr cn rn (X 8 k) (X 10 k) k (V k 6, V k 7) (X 23, X 24)
section ZC
variable {cn rn Ln : Nat} {p : xPv} {n : Int32} {U : Nat → Nat → Int32} {N : Nat} {I : Nat → xSi} {V : Nat → Nat → Nat → Int32} {J : xMi} {X : Nat → Nat → Int32}
theorem zAx.cong {S : xS} {J' : xMi} {X' : Nat → Nat → Int32} {ax : Int32} (h : zAx S J X ax) (j1 : J.1 = J'.1) (j2 : J.2.1 = J'.2.1) (hX : ∀ k, k ≤ 6 → X k = X' k) : zAx S J' X' ax := by
  obtain ⟨h1, h2, h3, h4, h5, h6⟩ := h
  refine ⟨by rw [← hX 2 (by decide)]; exact h1, by rw [← hX 3 (by decide)]; exact h2, by rw [← hX 4 (by decide)]; exact h3, by rw [← hX 5 (by decide)]; exact h4, by rw [← hX 6 (by decide)]; exact h5, ?_⟩
  rw [← h6]
  unfold FX6_dots
  rw [j1, j2]
theorem zSr.cong {I I' : xSi} {V V' : Nat → Nat → Int32} {X X' : Nat → Nat → Int32} {k : Nat} (h : zSr I V X k) (e1 : I'.1 = I.1) (e2 : I'.2.1 = I.2.1) (e3 : I'.2.2.1 = I.2.2.1) (e4 : I'.2.2.2.1 = I.2.2.2.1) (hV : ∀ j, j ≤ 4 → V' j = V j) (hX : ∀ j, 8 ≤ j → j ≤ 15 → X' j = X j) : zSr I' V' X' k := by
  unfold zSr
  rw [e1, e2, e3, e4, hV 1 (by decide), hV 2 (by decide), hV 3 (by decide), hV 4 (by decide), hX 8 (by decide) (by decide), hX 9 (by decide) (by decide), hX 10 (by decide) (by decide), hX 11 (by decide) (by decide), hX 12 (by decide) (by decide), hX 13 (by decide) (by decide), hX 14 (by decide) (by decide), hX 15 (by decide) (by decide)]
  exact h
/-- only sheets, the row of five, and the marks of staleness have changed -/
theorem zRel0.cong (h : zRel0 cn rn Ln p n U N I V J X) {I' : Nat → xSi} {V' : Nat → Nat → Nat → Int32} {J' : xMi} {X' : Nat → Nat → Int32} (eI : ∀ k, k < N → (I' k).1 = (I k).1 ∧ (I' k).2.1 = (I k).2.1 ∧ (I' k).2.2.1 = (I k).2.2.1 ∧ (I' k).2.2.2.1 = (I k).2.2.2.1) (eV : ∀ k, k < N → ∀ j, j ≤ 4 → V' k j = V k j) (j1 : J'.1 = J.1) (j2 : J'.2.1 = J.2.1) (j3 : J'.2.2.1 = J.2.2.1) (j4 : J'.2.2.2.1 = J.2.2.2.1) (hX : ∀ k, k ≤ 21 → X' k = X k) : zRel0 cn rn Ln p n U N I' V' J' X' := by
  obtain ⟨⟨⟨d1, d2, d3, d4⟩, d5⟩, ⟨n1, n2, n3, n4⟩, ⟨s1, s2, s3, s4⟩, b, sr, lb⟩ := h
  refine ⟨⟨⟨d1, d2, j1.trans d3, j2.trans d4⟩, d5⟩, ⟨n1, j3.trans n2, j4.trans n3, n4⟩, ⟨s1, s2, s3.cong j1.symm j2.symm (fun k hk => (hX k (by omega)).symm), s4.cong j1.symm j2.symm (fun k hk => (hX k (by omega)).symm)⟩, ?_, fun k hk => (sr k hk).cong (eI k hk).1 (eI k hk).2.1 (eI k hk).2.2.1 (eI k hk).2.2.2 (eV k hk) (fun j _ hj => hX j (by omega)), ?_⟩
  · rw [hX 9 (by decide), hX 11 (by decide)]; exact b
  · rw [hX 17 (by decide), hX 18 (by decide), hX 19 (by decide), hX 20 (by decide), hX 21 (by decide)]; exact lb
/-- behind drawing -/
theorem zRel.drawn (h : zRel cn rn Ln p n U N I V J X) : zRel cn rn Ln p n U N (fun k => st0 (I k)) (fun k => fV p (I k) (V k)) (mdI J) (drV J X) ∧ zShow cn rn N (fun k => fV p (I k) (V k)) (drV J X) := by
  have dc : ∀ k, FX3_draw p (st0 (I k)) (fV p (I k) (V k)) = FX3_draw p (I k) (V k) := fun k => draw_cong rfl rfl rfl rfl rfl rfl
  have dr : FX6_draws (mdI J) (drV J X) = FX6_draws J X := draws_cong rfl rfl rfl (fun k hk => vrM_lo (by omega) (by omega))
  refine ⟨⟨h.1.cong (fun k _ => ⟨rfl, rfl, rfl, rfl⟩) (fun k _ j hj => vrow_lo (by omega) (by omega)) rfl rfl rfl rfl (fun k hk => vrM_lo (by omega) (by omega)), fun k _ _ => ?_, fun _ => ⟨rfl, ?_⟩⟩, fun k hk => ?_⟩
  · rw [dc]; rfl
  · rw [dr]; rfl
  · exact z_drawn h.1 hk
/-- what the contracts of the reference ask -/
theorem zRel.rdy (h : zRel cn rn Ln p n U N I V J X) : mRdy J X := by
  obtain ⟨h0, -, hr⟩ := h
  have hn := h0.2.1
  have hd := h0.1
  have eN : J.2.2.1.toInt = (N : Int) := by rw [hn.2.1, nI_toInt (by omega)]
  refine ⟨by omega, fun ax hax => ?_, fun j hj => (h0.2.2.2.1 j hj).2, fun j hj i hi hs => ?_, hr, ?_, ⟨cn, rn, hd.1.2.2.1, hd.1.2.2.2, hd.2.2.1, hd.2.2.2.2⟩⟩
  · have key : ∀ S : xS, zOk S → zAx S J X ax → ¬ (2 : Int64) * FX6_span J X ax = 0 := fun S ok ax0 => by
      have hs := z_l0 ok
      have hsp := (z_spanL ok ax0).1
      have e2 : (2 : Int64).toInt = 2 := rfl
      intro z
      have z2 := congrArg Int64.toInt z
      rw [fb_mulL (by rw [e2, hsp]; omega) (by rw [e2, hsp]; omega), e2, hsp] at z2
      have e0 : (0 : Int64).toInt = 0 := rfl
      omega
    obtain ⟨k, hk, rfl⟩ := vp_in_of hax (by decide)
    rcases (show k = 0 ∨ k = 1 by omega) with rfl | rfl
    · exact key _ h0.2.2.1.1 h0.2.2.1.2.2.1
    · exact key _ h0.2.2.1.2.1 h0.2.2.1.2.2.2
  · rw [hn.2.1, nI_clamp (by omega)] at hj
    have hs' : ¬ FX3_isSeen p (I j) (V j) (nI i) = 0 := by rw [z_seen h0 hj hi]; exact hs
    exact z_mdrOk h0.md hj hi hs'
  · rw [hn.2.2.1, fa_le, fa_le, nI_toInt (by omega), zi0]
    exact ⟨by show (Ln : Int) ≤ 20; omega, by omega⟩
/-- what the contracts of the class ask -/
theorem zRel.cls (h : zRel cn rn Ln p n U N I V J X) : (∀ k, k < N → (I k).2.2.2.1 ≤ 24) ∧ (∀ k, k < N → ∀ j : Nat, j < ((I k).2.2.2.1).toNatClampNeg → ¬ FX3_isSeen p (I k) (V k) (nI j) = 0 → drOk p (I k) (V k) (nI j)) ∧ (∀ k, k < N → (I k).2.2.2.2 = 0 → FX3_draw p (I k) (V k) = (V k 6, V k 7)) ∧ n ≤ 20 ∧ 0 ≤ n ∧ (∀ k, k < N → 0 ≤ (I k).2.2.2.1) := by
  obtain ⟨h0, hc, -⟩ := h
  have hn := h0.2.1
  have ez : ∀ k, k < N → (I k).2.2.2.1 = X 11 k := fun k hk => (h0.2.2.2.2.1 k hk).1.2.2.2
  have e24 : (24 : Int32).toInt = 24 := rfl
  have e20 : (20 : Int32).toInt = 20 := rfl
  refine ⟨fun k hk => ?_, fun k hk j hj hs => ?_, hc, ?_, ?_, fun k hk => ?_⟩
  · have := (h0.2.2.2.1 k (by omega)).2
    rw [ez k hk, fa_le, e24]; exact this.2
  · rw [ez k hk] at hj
    exact z_drOk h0 hk hj hs
  · rw [hn.1, fa_le, nI_toInt (by omega), e20]; omega
  · rw [hn.1, fa_le, nI_toInt (by omega), zi0]; omega
  · have := (h0.2.2.2.1 k (by omega)).2
    rw [ez k hk, fa_le, zi0]; exact this.1
end ZC
