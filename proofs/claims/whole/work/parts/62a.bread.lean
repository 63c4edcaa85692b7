/-! BOTH: what draws and reads -/
section ZG
variable {cn rn Ln : Nat} {p : xPv} {n : Int32} {U : Nat → Nat → Int32} {N : Nat} {I : Nat → xSi} {V : Nat → Nat → Nat → Int32} {J : xMi} {X : Nat → Nat → Int32}
/-- the reference has drawn all, the class some -/
theorem zRel.drawnP (h : zRel cn rn Ln p n U N I V J X) {I' : Nat → xSi} {V' : Nat → Nat → Nat → Int32} (hp : ∀ k, k < N → (I' k = I k ∧ V' k = V k) ∨ (I' k = st0 (I k) ∧ V' k = fV p (I k) (V k))) : zRel cn rn Ln p n U N I' V' (mdI J) (drV J X) := by
  have dr : FX6_draws (mdI J) (drV J X) = FX6_draws J X := draws_cong rfl rfl rfl (fun k hk => vrM_lo (by omega) (by omega))
  refine ⟨h.1.cong (fun k hk => ?_) (fun k hk j hj => ?_) rfl rfl rfl rfl (fun k hk => vrM_lo (by omega) (by omega)), fun k hk hz => ?_, fun _ => ⟨rfl, by rw [dr]; rfl⟩⟩
  · rcases hp k hk with ⟨a, -⟩ | ⟨a, -⟩ <;> rw [a] <;> exact ⟨rfl, rfl, rfl, rfl⟩
  · rcases hp k hk with ⟨-, a⟩ | ⟨-, a⟩ <;> rw [a]
    exact vrow_lo (by omega) (by omega)
  · rcases hp k hk with ⟨a, b⟩ | ⟨a, b⟩
    · rw [a] at hz; rw [a, b]; exact h.2.1 k hk hz
    · rw [a, b, draw_cong (I := st0 (I k)) (I' := I k) (V := fV p (I k) (V k)) (V' := V k) rfl rfl rfl rfl rfl rfl]; rfl
theorem zRel.drawnR (h : zRel cn rn Ln p n U N I V J X) : zRel cn rn Ln p n U N I V (mdI J) (drV J X) := h.drawnP (fun k _ => Or.inl ⟨rfl, rfl⟩)
theorem z_side {m : Nat} {w : Int32} (hm : m < 1000) (h : ¬ FX6_in w 1 (nI m) = 0) : ∃ a : Nat, 1 ≤ a ∧ a ≤ m ∧ w = nI a := by
  have z := in_iff.mp h
  rw [fa_lt, fa_lt, zi1, nI_toInt (by omega)] at z
  obtain ⟨a, ha, rfl⟩ := z_nat (x := w) (n := m + 1) (by omega) (by omega) (by omega)
  rw [nI_toInt (by omega)] at z
  exact ⟨a, by omega, by omega, rfl⟩
end ZG
section ZM
variable {G : xG} {l : Launch} {sc sm : Nat} {h : xH} {Q : Option Value → xH → Prop}
theorem zc_at {x y : Int32} (hi : zInv G sc sm h) (hQ : ∀ (i : Int32) (h1 : xH), zR6 G l mX6_at [.ref sm, .int x, .int y] sc sm (.int i) h1 → Q (some (.int i)) h1) : xV G l mX5_at 10 0 0 0 0 0 [.ref sc, .int x, .int y] [] h Q := by
  obtain ⟨pg, sx, sy, al, ed, C, B, p, n, U, md, N, I, V, A, J, X, cn, rn, Ln, rfl, hs⟩ := hi
  have hz := hs.2.2.2.2.2.1
  have hc := hz.cls
  have rd := hs.rdy
  have hA : ∀ {i j : Nat}, i ≠ j → A i ≠ A j := fun {i j} e => hs.2.2.2.1 i j e
  rcases z_cellH hz.1 x y with ⟨z1, z2⟩ | ⟨z1, z2, j, r, hj, hr, rfl, rfl⟩
  · refine kX5_at (d := 4) hs.1 hs.2.2.1 hc.1 hc.2.1 hc.2.2.1 rfl rfl hc.2.2.2.1 (fun _ => hQ _ h (zR6.same hs fun Q2 hQ2 => kX6_at (d := 2) hs.2.1 hA rd ?_)) (fun q => absurd z1 q)
    rw [if_pos z2]; exact hQ2
  · refine kX5_at (d := 4) hs.1 hs.2.2.1 hc.1 hc.2.1 hc.2.2.1 rfl rfl hc.2.2.2.1 (fun q => absurd q z1) (fun _ h1 hK1 hF1 => hQ _ h1 (zR6.of hs hK1 hF1.K fun hM1 Q2 hQ2 => kX6_at (d := 2) hM1 hA rd ?_))
    rw [if_neg z2]
    intro h2 hM2 hF2
    rw [← (z_sign hz.drawn.1.1 hz.drawn.2 hj hr).1]
    exact hQ2 h2 _ _ cn rn Ln hM2 hF2 hz.drawn.1
theorem zc_shown {x y : Int32} (hi : zInv G sc sm h) (hQ : ∀ (i : Int32) (h1 : xH), zR6 G l mX6_shown [.ref sm, .int x, .int y, xU, xU] sc sm (.int i) h1 → Q (some (.int i)) h1) : xV G l mX5_shown 10 0 0 0 0 0 [.ref sc, .int x, .int y, xU] [] h Q := by
  obtain ⟨pg, sx, sy, al, ed, C, B, p, n, U, md, N, I, V, A, J, X, cn, rn, Ln, rfl, hs⟩ := hi
  have hz := hs.2.2.2.2.2.1
  have hc := hz.cls
  have rd := hs.rdy
  have h6 := hz.1.2.1
  have hA : ∀ {i j : Nat}, i ≠ j → A i ≠ A j := fun {i j} e => hs.2.2.2.1 i j e
  have neg9 : ∀ k, k < 100 → ¬ nI k = -9 := fun k hk z => by
    have : nI k < 0 := by rw [z]; decide
    exact nI_pos (by omega) this
  rcases z_cellH hz.1 x y with ⟨z1, z2⟩ | ⟨z1, z2, j, r, hj, hr, rfl, rfl⟩
  · refine kX5_shown (d := 4) hs.1 hs.2.2.1 hc.1 hc.2.1 hc.2.2.1 rfl rfl hc.2.2.2.1 (fun _ => hQ _ h (zR6.same hs fun Q2 hQ2 => kX6_shown (d := 2) hs.2.1 hA rd ?_)) (fun q => absurd z1 q) (fun q => absurd z1 q)
    rw [if_pos z2]; exact hQ2
  · have cv := z_cov hz.drawnR.1 (nI j) (nI r)
    obtain ⟨c1, c2, c3, c4⟩ := z_cellQ hz.1 hj hr
    have c2 : ((nI r * (mdI J).1) + nI j) = nI (r * cn + j) := c2
    refine kX5_shown (d := 4) hs.1 hs.2.2.1 hc.1 hc.2.1 hc.2.2.1 rfl rfl hc.2.2.2.1 (fun q => absurd q z1) (fun _ q => hQ _ h (zR6.of hs hs.1 xfrK.rf fun hM1 Q2 hQ2 => kX6_shown (d := 2) hM1 hA rd ?_)) (fun _ q h1 hK1 hF1 => hQ _ h1 (zR6.of hs hK1 hF1.K fun hM1 Q2 hQ2 => kX6_shown (d := 2) hM1 hA rd ?_))
    · rcases cv with ⟨a, -⟩ | ⟨k, hk, a, b⟩
      · exact absurd a q
      · rw [if_neg z2, b, if_neg (show ¬ nI k < 0 from nI_pos (by omega))]
        intro h2 hM2 hF2
        rw [← a]
        exact hQ2 h2 _ _ cn rn Ln hM2 hF2 hz.drawnR
    · rcases cv with ⟨a, b⟩ | ⟨k, hk, a, b⟩
      · rw [if_neg z2, b, if_pos (show (-1 : Int32) < 0 by decide), c2]
        rw [c1] at hQ2
        rcases z_lat hz.drawn.1.1 hz.drawn.2 c4 with ⟨a2, b2⟩ | ⟨k, hk, a2, b2, -⟩
        · rw [b2, if_neg (by decide)]
          intro h2 hM2 hF2
          rw [a2] at hQ2
          exact hQ2 h2 _ _ cn rn Ln hM2 hF2 hz.drawn.1
        · rw [b2, if_pos (nI_pos' (by omega))]
          intro h2 hM2 hF2
          rw [a2] at hQ2
          exact hQ2 h2 _ _ cn rn Ln hM2 hF2 hz.drawn.1
      · rw [a] at q; exact absurd q (neg9 k (by omega))
theorem zc_hit {x y k : Int32} (hi : zInv G sc sm h) (hQ : ∀ (i : Int32) (h1 : xH), zR6 G l mX6_hit [.ref sm, .int x, .int y, .int k, xU, xU, xU, xU] sc sm (.int i) h1 → Q (some (.int i)) h1) : xV G l mX5_hit 10 0 0 0 0 0 [.ref sc, .int x, .int y, .int k, xU, xU, xU, xU, xU, xU, xU] [] h Q := by
  obtain ⟨pg, sx, sy, al, ed, C, B, p, n, U, md, N, I, V, A, J, X, cn, rn, Ln, rfl, hs⟩ := hi
  have hz := hs.2.2.2.2.2.1
  have hc := hz.cls
  have rd := hs.rdy
  have hly : ∀ k, k < 6 → 0 ≤ (X 9 k).toInt ∧ (X 9 k).toInt ≤ 9 := fun k hk => (hz.1.2.2.2.1 k hk).1
  have hA : ∀ {i j : Nat}, i ≠ j → A i ≠ A j := fun {i j} e => hs.2.2.2.1 i j e
  rcases z_cellH hz.1 x y with ⟨z1, z2⟩ | ⟨z1, z2, j, r, hj, hr, rfl, rfl⟩
  · refine kX5_hit (d := 4) hs.1 hs.2.2.1 hc.1 hc.2.1 hc.2.2.1 rfl rfl hc.2.2.2.1 ?_
    rw [if_pos z1]
    refine hQ _ h (zR6.same hs fun Q2 hQ2 => kX6_hit (d := 2) hs.2.1 hA rd hly ?_)
    rw [if_pos z2]; exact hQ2
  · obtain ⟨c1, c2, c3, c4⟩ := z_cellQ hz.1 hj hr
    have c2 : ((nI r * (mdI J).1) + nI j) = nI (r * cn + j) := c2
    refine kX5_hit (d := 4) hs.1 hs.2.2.1 hc.1 hc.2.1 hc.2.2.1 rfl rfl hc.2.2.2.1 ?_
    rw [if_neg z1]
    by_cases hk : 0 ≤ k
    · rw [if_pos hk]
      intro h1 hK1 hF1
      refine hQ _ h1 (zR6.of hs hK1 hF1.K fun hM1 Q2 hQ2 => kX6_hit (d := 2) hM1 hA rd hly ?_)
      rw [if_neg z2, if_pos hk]
      intro h2 hM2 hF2
      obtain ⟨t, ht, rfl⟩ := nI_of (Int32.not_lt.mpr hk)
      rw [c1, z_hit hz.drawn.1.1 hz.drawn.2 c4 ht] at hQ2
      rw [c2]
      exact hQ2 h2 _ _ cn rn Ln hM2 hF2 hz.drawn.1
    · rw [if_neg hk]
      refine hQ _ h (zR6.same hs fun Q2 hQ2 => kX6_hit (d := 2) hs.2.1 hA rd hly ?_)
      rw [if_neg z2, if_neg hk]; exact hQ2
theorem zc_inked (hi : zInv G sc sm h) (hQ : ∀ (i : Int32) (h1 : xH), zR6 G l mX6_inked [.ref sm, xU, xU, xU] sc sm (.int i) h1 → Q (some (.int i)) h1) : xV G l mX5_inked 10 0 0 0 0 0 [.ref sc] [] h Q := by
  obtain ⟨pg, sx, sy, al, ed, C, B, p, n, U, md, N, I, V, A, J, X, cn, rn, Ln, rfl, hs⟩ := hi
  have hz := hs.2.2.2.2.2.1
  have hc := hz.cls
  have rd := hs.rdy
  have d := hz.1.1
  have dd := d.2
  have hA : ∀ {i j : Nat}, i ≠ j → A i ≠ A j := fun {i j} e => hs.2.2.2.1 i j e
  have e1 : p.1.toNatClampNeg = cn := by rw [d.1.1, nI_clamp (by omega)]
  have e2 : p.2.1.toNatClampNeg = rn := by rw [d.1.2.1, nI_clamp (by omega)]
  refine kX5_inked (d := 4) hs.1 hs.2.2.1 hc.1 hc.2.1 hc.2.2.1 rfl rfl hc.2.2.2.1 (by rw [e1]; exact d.1.1) (by rw [e2]; exact d.1.2.1) (by omega) (by omega) (fun h1 hK1 hF1 => hQ _ h1 (zR6.of hs hK1 hF1.K fun hM1 Q2 hQ2 => kX6_inked (d := 2) hM1 hA rd d.1.2.2.1 d.1.2.2.2 d.2.2.1 d.2.2.2.2 (fun h2 hM2 hF2 => ?_)))
  rw [e1, e2] at hQ2
  have e : FX5_coveredWithin p n U N (fun k => st0 (I k)) (fun k => fV p (I k) (V k)) 0 0 cn rn = LX6_cvO (mdI J) (drV J X) 0 cn rn 0 0 := z_cvO hz.drawn.1.1 hz.drawn.2 (by omega) rn 0 0 (by omega)
  rw [e] at hQ2
  exact hQ2 h2 _ _ cn rn Ln hM2 hF2 hz.drawn.1
theorem zc_digest (hi : zInv G sc sm h) (hQ : ∀ (i : Int64) (h1 : xH), zR6 G l mX6_digest [.ref sm, xU, xU, xU, xU] sc sm (.long i) h1 → Q (some (.long i)) h1) : xV G l mX5_digest 10 0 0 0 0 0 [.ref sc, xU, xU, xU, xU] [] h Q := by
  obtain ⟨pg, sx, sy, al, ed, C, B, p, n, U, md, N, I, V, A, J, X, cn, rn, Ln, rfl, hs⟩ := hi
  have hz := hs.2.2.2.2.2.1
  have hc := hz.cls
  have rd := hs.rdy
  have d := hz.1.1
  have dd := d.2
  have hA : ∀ {i j : Nat}, i ≠ j → A i ≠ A j := fun {i j} e => hs.2.2.2.1 i j e
  refine kX5_digest (d := 4) hs.1 hs.2.2.1 hc.1 hc.2.1 hc.2.2.1 rfl rfl hc.2.2.2.1 d.1.1 d.1.2.1 (by omega) (by omega) (fun h1 hK1 hF1 => hQ _ h1 (zR6.of hs hK1 hF1.K fun hM1 Q2 hQ2 => kX6_digest (d := 2) hM1 hA rd d.1.2.2.1 d.1.2.2.2 d.2.2.1 d.2.2.2.2 (fun h2 hM2 hF2 => ?_)))
  have e : FX5_digest p n U N (fun k => st0 (I k)) (fun k => fV p (I k) (V k)) cn rn = LX6_dgO (mdI J) (drV J X) cn rn 0 7 := z_dgO hz.drawn.1.1 hz.drawn.2 rn 0 7 (by omega)
  rw [e] at hQ2
  exact hQ2 h2 _ _ cn rn Ln hM2 hF2 hz.drawn.1
theorem zc_legend {x y : Int32} (hi : zInv G sc sm h) (hQ : ∀ (i : Int32) (h1 : xH), zR6 G l mX6_legend [.ref sm, .int x, .int y, xU, xU, xU, xU, xU, xU, xU, xU] sc sm (.int i) h1 → Q (some (.int i)) h1) : xV G l mX5_legend 10 0 0 0 0 0 [.ref sc, .int x, .int y, xU, xU, xU, xU, xU, xU] [] h Q := by
  obtain ⟨pg, sx, sy, al, ed, C, B, p, n, U, md, N, I, V, A, J, X, cn, rn, Ln, rfl, hs⟩ := hi
  have hz := hs.2.2.2.2.2.1
  have hc := hz.cls
  have rd := hs.rdy
  have d := hz.1.1
  have dd := d.2
  have hA : ∀ {i j : Nat}, i ≠ j → A i ≠ A j := fun {i j} e => hs.2.2.2.1 i j e
  have ex : FX5_within x 1 p.1 = FX6_in x 1 J.1 := by rw [d.1.1, d.1.2.2.1]; rfl
  have ey : FX5_within y 1 p.2.1 = FX6_in y 1 J.2.1 := by rw [d.1.2.1, d.1.2.2.2]; rfl
  have bad : (FX6_in x 1 J.1 = 0 ∨ FX6_in y 1 J.2.1 = 0) → xV G l mX5_legend 10 0 0 0 0 0 [.ref sc, .int x, .int y, xU, xU, xU, xU, xU, xU] [] h Q := fun hb =>
    kX5_legendB (d := 4) hs.1 (by rw [ex, ey]; exact hb) (hQ _ h (zR6.same hs fun Q2 hQ2 => kX6_legendB (d := 2) hs.2.1 hb hQ2))
  by_cases z1 : FX6_in x 1 J.1 = 0
  · exact bad (Or.inl z1)
  · by_cases z2 : FX6_in y 1 J.2.1 = 0
    · exact bad (Or.inr z2)
    · obtain ⟨w, w1, w2, rfl⟩ := z_side (m := cn) (by omega) (by rw [← d.1.2.2.1]; exact z1)
      obtain ⟨g, g1, g2, rfl⟩ := z_side (m := rn) (by omega) (by rw [← d.1.2.2.2]; exact z2)
      refine kX5_legend (d := 4) hs.1 hs.2.2.1 hc.1 hc.2.1 hc.2.2.1 rfl rfl hc.2.2.2.1 d.1.1 d.1.2.1 (by omega) (by omega) (by rw [ex]; exact z1) (by rw [ey]; exact z2) w2 g2 (fun h1 hK1 hF1 => hQ _ h1 (zR6.of hs hK1 hF1.K fun hM1 Q2 hQ2 => kX6_legend (d := 2) hM1 hA rd d.1.2.2.1 d.1.2.2.2 d.2.2.1 d.2.2.2.2 z1 z2 w2 g2 (fun h2 hM2 hF2 => ?_)))
      rw [z_legend hz.drawn.1.1 hz.drawn.2 w2 g2] at hQ2
      exact hQ2 h2 _ _ cn rn Ln hM2 hF2 hz.drawn.1
theorem zc_count {s w : Int32} (hi : zInv G sc sm h) (hQ : ∀ (i : Int32) (h1 : xH), zR6 G l mX6_count [.ref sm, .int s, .int w, xU, xU, xU, xU, xU] sc sm (.int i) h1 → Q (some (.int i)) h1) : xV G l mX5_count 10 0 0 0 0 0 [.ref sc, .int s, .int w, xU] [] h Q := by
  obtain ⟨pg, sx, sy, al, ed, C, B, p, n, U, md, N, I, V, A, J, X, cn, rn, Ln, rfl, hs⟩ := hi
  have hz := hs.2.2.2.2.2.1
  have hr := hz.1
  have hc := hz.cls
  have rd := hs.rdy
  have d := hr.1
  have h6 := hr.2.1
  have h640 := z_cn d
  have hA : ∀ {i j : Nat}, i ≠ j → A i ≠ A j := fun {i j} e => hs.2.2.2.1 i j e
  have ecr : (J.1 * J.2.1).toNatClampNeg ≤ 640 := by rw [d.1.2.2.1, d.1.2.2.2, pk_mul, nI_clamp (by omega)]; exact h640
  have go : ∀ v : Int32, (∀ Q2 : Option Value → xH → Prop, Q2 (some (.int v)) h → (if FX6_isSeries J X s = 0 then Q2 (some (.int (-1 : Int32))) h else (if FX6_in w (0 : Int32) (4 : Int32) = 0 then Q2 (some (.int (-1 : Int32))) h else (if (4 : Int32) ≤ w then (∀ h', xMod G A (mdI J) (vrM X (FX6_draws J X)) h' → xfM A h h' → Q2 (some (.int (FX6_hits J (FX6_draws J X) s))) h') else Q2 (some (.int (if w = 0 then X 11 (Int32.toNatClampNeg s) else (if w = (1 : Int32) then (FX6_cnt J X s).1 else (if w = (2 : Int32) then (FX6_cnt J X s).2.1 else (FX6_cnt J X s).2.2))))) h)))) → zR6 G l mX6_count [.ref (A 0), .int s, .int w, xU, xU, xU, xU, xU] sc (A 0) (.int v) h := fun v e => zR6.same hs fun Q2 hQ2 => kX6_count (d := 2) hs.2.1 hA rd.1.2 rd.1.1 rd.2.1 rd.2.2.1 rd.2.2.2.1 rd.2.2.2.2.1 ecr (e Q2 hQ2)
  rcases z_isSer hr s with ⟨z, hn⟩ | ⟨z, j, hj, rfl⟩
  · refine kX5_countN (d := 6) hs.1 hn (hQ _ h (go _ fun Q2 hQ2 => ?_))
    rw [if_pos z]; exact hQ2
  · have ct := z_cnt hr hj
    have ez : (I j).2.2.2.1 = X 11 j := (hr.2.2.2.2.1 j hj).1.2.2.2
    have ej : (nI j).toNatClampNeg = j := nI_clamp (by omega)
    refine kX5_countJ (d := 4) hs.1 hs.2.2.1 hj hc.1 hc.2.1 hc.2.2.1 ?_
    by_cases w0 : w = 0
    · rw [if_pos w0]
      refine hQ _ h (go _ fun Q2 hQ2 => ?_)
      rw [if_neg z, w0, if_neg (by decide), if_neg (by decide), if_pos rfl, ej, ← ez]; exact hQ2
    rw [if_neg w0]
    by_cases w1 : w = 1
    · rw [if_pos w1]
      refine hQ _ h (go _ fun Q2 hQ2 => ?_)
      rw [if_neg z, w1, if_neg (by decide), if_neg (by decide), if_neg (by decide), if_pos rfl, ct.1]; exact hQ2
    rw [if_neg w1]
    by_cases w2 : w = 2
    · rw [if_pos w2]
      refine hQ _ h (go _ fun Q2 hQ2 => ?_)
      rw [if_neg z, w2, if_neg (by decide), if_neg (by decide), if_neg (by decide), if_neg (by decide), if_pos rfl, ct.2.1]; exact hQ2
    rw [if_neg w2]
    by_cases w3 : w = 3
    · rw [if_pos w3]
      refine hQ _ h (go _ fun Q2 hQ2 => ?_)
      rw [if_neg z, w3, if_neg (by decide), if_neg (by decide), if_neg (by decide), if_neg (by decide), if_neg (by decide), ct.2.2]; exact hQ2
    rw [if_neg w3]
    by_cases w4 : w = 4
    · rw [if_pos w4]
      intro h1 hK1 hF1
      refine hQ _ h1 (zR6.of hs hK1 hF1 fun hM1 Q2 hQ2 => kX6_count (d := 2) hM1 hA rd.1.2 rd.1.1 rd.2.1 rd.2.2.1 rd.2.2.2.1 rd.2.2.2.2.1 ecr ?_)
      rw [if_neg z, w4, if_neg (by decide), if_pos (by decide)]
      intro h2 hM2 hF2
      rw [z_cells hr hj] at hQ2
      refine hQ2 h2 _ _ cn rn Ln hM2 hF2 (hz.drawnP fun k hk => ?_)
      by_cases e : k = j
      · subst e; right; exact ⟨va_up_self _ _ _, va_up_self _ _ _⟩
      · left; exact ⟨va_up_ne _ _ e, va_up_ne _ _ e⟩
    rw [if_neg w4]
    refine hQ _ h (go _ fun Q2 hQ2 => ?_)
    have zin : FX6_in w 0 4 = 0 := Classical.byContradiction fun q => by
      have q := in_iff.mp q
      rw [fa_lt, fa_lt, zi0, zi4] at q
      have e3 : (3 : Int32).toInt = 3 := rfl
      have a0 : w.toInt ≠ 0 := fun t => w0 (zinj t)
      have a1 : w.toInt ≠ 1 := fun t => w1 (zinj t)
      have a2 : w.toInt ≠ 2 := fun t => w2 (zinj t)
      have a3 : w.toInt ≠ 3 := fun t => w3 (zinj t)
      have a4 : w.toInt ≠ 4 := fun t => w4 (zinj t)
      omega
    rw [if_neg z, if_pos zin]; exact hQ2
end ZM
