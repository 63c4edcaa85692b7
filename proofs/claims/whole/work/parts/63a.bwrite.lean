/-! BOTH: writes -/
section ZW
variable {cn rn Ln : Nat} {p : xPv} {n : Int32} {U : Nat → Nat → Int32} {N : Nat} {I : Nat → xSi} {V : Nat → Nat → Nat → Int32} {J : xMi} {X : Nat → Nat → Int32}
theorem z_stale {p : xPv} : zFrC p N (fun k => st1 (I k)) V := fun k _ hz => absurd hz (by show ¬ (1 : Int32) = 0; decide)
theorem z_undrawn {a b c d : Int32} : zFrR (a, b, c, d, 0) X := fun q => absurd rfl q
theorem zRel0.axes (h : zRel0 cn rn Ln p n U N I V J X) {S T : xS} {J' : xMi} {X' : Nat → Nat → Int32} (o1 : zOk S) (o2 : zOk T) (a1 : zAx S J' X' 0) (a2 : zAx T J' X' 1) (j1 : J'.1 = J.1) (j2 : J'.2.1 = J.2.1) (j3 : J'.2.2.1 = J.2.2.1) (j4 : J'.2.2.2.1 = J.2.2.2.1) (hX : ∀ k, 7 ≤ k → k ≤ 21 → X' k = X k) : zRel0 cn rn Ln (p.1, p.2.1, S, T) n U N (fun k => st1 (I k)) V J' X' := by
  obtain ⟨⟨⟨d1, d2, d3, d4⟩, d5⟩, ⟨n1, n2, n3, n4⟩, -, b, sr, lb⟩ := h
  refine ⟨⟨⟨d1, d2, j1.trans d3, j2.trans d4⟩, d5⟩, ⟨n1, j3.trans n2, j4.trans n3, n4⟩, ⟨o1, o2, a1, a2⟩, ?_, fun k hk => (sr k hk).cong rfl rfl rfl rfl (fun _ _ => rfl) (fun j hj hj2 => hX j (by omega) (by omega)), ?_⟩
  · rw [hX 9 (by decide) (by decide), hX 11 (by decide) (by decide)]; exact b
  · rw [hX 17 (by decide) (by decide), hX 18 (by decide) (by decide), hX 19 (by decide) (by decide), hX 20 (by decide) (by decide), hX 21 (by decide) (by decide)]; exact lb
end ZW
section ZX
variable {G : xG} {l : Launch} {sc sm : Nat} {h : xH} {Q : Option Value → xH → Prop}
theorem zc_canvas {a b : Int32} (hi : zInv G sc sm h) (hQ : ∀ (i : Int32) (h1 : xH), zR6 G l mX6_canvas [.ref sm, .int a, .int b] sc sm (.int i) h1 → Q (some (.int i)) h1) : xV G l mX5_canvas 10 0 0 0 0 0 [.ref sc, .int a, .int b] [] h Q := by
  obtain ⟨pg, sx, sy, al, ed, C, B, p, n, U, md, N, I, V, A, J, X, cn, rn, Ln, rfl, hs⟩ := hi
  have hz := hs.2.2.2.2.2.1
  have hA : ∀ {i j : Nat}, i ≠ j → A i ≠ A j := fun {i j} e => hs.2.2.2.1 i j e
  refine kX5_canvas (d := 6) hs.1 hs.2.2.1 ?_
  by_cases z1 : FX6_in a 4 40 = 0
  · rw [if_pos (show FX5_within a 4 40 = 0 from z1)]
    refine hQ _ h (zR6.same hs fun Q2 hQ2 => kX6_canvas (d := 9) hs.2.1 hA ?_)
    rw [if_pos z1]; exact hQ2
  rw [if_neg (show ¬ FX5_within a 4 40 = 0 from z1)]
  by_cases z2 : FX6_in b 2 16 = 0
  · rw [if_pos (show FX5_within b 2 16 = 0 from z2)]
    refine hQ _ h (zR6.same hs fun Q2 hQ2 => kX6_canvas (d := 9) hs.2.1 hA ?_)
    rw [if_neg z1, if_pos z2]; exact hQ2
  rw [if_neg (show ¬ FX5_within b 2 16 = 0 from z2)]
  intro h1 hK1 hF1
  refine hQ _ h1 (zR6.of hs hK1 hF1 fun hM1 Q2 hQ2 => kX6_canvas (d := 9) hM1 hA ?_)
  rw [if_neg z1, if_neg z2]
  intro h2 hM2 hF2
  have y1 := in_iff.mp z1
  have y2 := in_iff.mp z2
  have e40 : (40 : Int32).toInt = 40 := rfl
  have e16 : (16 : Int32).toInt = 16 := rfl
  rw [fa_lt, fa_lt, zi4, e40] at y1
  rw [fa_lt, fa_lt, zi2, e16] at y2
  obtain ⟨c', hc', rfl⟩ := z_nat (x := a) (n := 41) (by omega) (by omega) (by decide)
  obtain ⟨r', hr', rfl⟩ := z_nat (x := b) (n := 17) (by omega) (by omega) (by decide)
  rw [nI_toInt (by omega)] at y1 y2
  obtain ⟨⟨⟨d1, d2, d3, d4⟩, d5⟩, ⟨n1, n2, n3, n4, n5⟩, ⟨o1, o2, a1, a2⟩, b9, sr, lb⟩ := hz.1
  have f1 : (2 * nI c').toInt = 2 * (c' : Int) := by rw [show (2 : Int32) = nI 2 from rfl, pk_mul, nI_toInt (by omega)]; omega
  have f2 : (4 * nI r').toInt = 4 * (r' : Int) := by rw [show (4 : Int32) = nI 4 from rfl, pk_mul, nI_toInt (by omega)]; omega
  refine hQ2 h2 _ _ c' r' 0 hM2 hF2 ⟨⟨⟨⟨rfl, rfl, rfl, rfl⟩, by omega, by omega, by omega, by omega⟩, ⟨rfl, n2, rfl, n4, by omega⟩, ⟨⟨o1.1, o1.2.1, o1.2.2.1, ?_, ?_⟩, ⟨o2.1, o2.2.1, o2.2.2.1, ?_, ?_⟩, ⟨a1.1, a1.2.1, a1.2.2.1, a1.2.2.2.1, a1.2.2.2.2.1, rfl⟩, ⟨a2.1, a2.2.1, a2.2.2.1, a2.2.2.2.1, a2.2.2.2.2.1, rfl⟩⟩, b9, fun k hk => (sr k hk).cong rfl rfl rfl rfl (fun _ _ => rfl) (fun _ _ _ => rfl), fun i hi => absurd hi (Nat.not_lt_zero i)⟩, z_stale, z_undrawn⟩
  · show 8 ≤ (2 * nI c').toInt; omega
  · show (2 * nI c').toInt ≤ 80; omega
  · show 8 ≤ (4 * nI r').toInt; omega
  · show (4 * nI r').toInt ≤ 80; omega
theorem z_okS {k a b f t dn : Int32} (hk : ¬ FX6_in k 0 1 = 0) (ha : ¬ FX6_isValue a = 0) (hb : ¬ FX6_isValue b = 0) (hab : a < b) (hd : 8 ≤ dn.toInt ∧ dn.toInt ≤ 80) : zOk (k, a, b, f, t, dn) := by
  have y1 := in_iff.mp hk
  have y2 := in_iff.mp ha
  have y3 := in_iff.mp hb
  have m6 : (-1000000 : Int32).toInt = -1000000 := rfl
  have p6 : (1000000 : Int32).toInt = 1000000 := rfl
  rw [fa_lt, fa_lt, zi0, zi1] at y1
  rw [fa_lt, fa_lt, m6, p6] at y2 y3
  rw [fa_lt] at hab
  have k01 : k = 0 ∨ k = 1 := by
    have : k.toInt = 0 ∨ k.toInt = 1 := by omega
    rcases this with q | q
    · exact Or.inl (zinj q)
    · exact Or.inr (zinj q)
  refine ⟨?_, ⟨by show -1000000 ≤ a.toInt; omega, hab, by show b.toInt ≤ 1000000; omega⟩, fun q => ?_, hd.1, hd.2⟩
  · rcases k01 with q | q
    · exact Or.inl q
    · exact Or.inr (Or.inl q)
  · have q : k = 2 := q
    rcases k01 with r | r <;> rw [r] at q <;> exact absurd q (by decide)
theorem zc_scale {ax k a b : Int32} (hi : zInv G sc sm h) (hQ : ∀ (i : Int32) (h1 : xH), zR6 G l mX6_scale [.ref sm, .int ax, .int k, .int a, .int b] sc sm (.int i) h1 → Q (some (.int i)) h1) : xV G l mX5_scale 10 0 0 0 0 0 [.ref sc, .int ax, .int k, .int a, .int b, xU, xU] [] h Q := by
  obtain ⟨pg, sx, sy, al, ed, C, B, p, n, U, md, N, I, V, A, J, X, cn, rn, Ln, rfl, hs⟩ := hi
  have hz := hs.2.2.2.2.2.1
  have hr := hz.1
  have hA : ∀ {i j : Nat}, i ≠ j → A i ≠ A j := fun {i j} e => hs.2.2.2.1 i j e
  obtain ⟨o1, o2, a1, a2⟩ := hr.2.2.1
  have bad : ∀ (f : ∀ Q2 : Option Value → xH → Prop, Q2 (some (.int (-1))) h → xV G l mX6_scale 10 0 0 0 0 0 [.ref (A 0), .int ax, .int k, .int a, .int b] [] h Q2), Q (some (.int (-1))) h := fun f => hQ _ h (zR6.same hs f)
  refine kX5_scale (d := 6) hs.1 hs.2.2.1 ?_
  rcases z_axis ax with ⟨rfl, z⟩ | ⟨rfl, z⟩ | ⟨z0, z1, z⟩
  · rw [if_pos rfl]
    by_cases z1 : FX6_in k 0 1 = 0
    · rw [if_pos (show FX5_within k 0 1 = 0 from z1)]
      exact bad fun Q2 hQ2 => kX6_scale (d := 8) hs.2.1 hA (by rw [if_neg z, if_pos z1]; exact hQ2)
    rw [if_neg (show ¬ FX5_within k 0 1 = 0 from z1)]
    by_cases z2 : FX6_isValue a = 0
    · rw [if_pos (show FX5_within a (-1000000) 1000000 = 0 from z2)]
      exact bad fun Q2 hQ2 => kX6_scale (d := 8) hs.2.1 hA (by rw [if_neg z, if_neg z1, if_pos z2]; exact hQ2)
    rw [if_neg (show ¬ FX5_within a (-1000000) 1000000 = 0 from z2)]
    by_cases z3 : FX6_isValue b = 0
    · rw [if_pos (show FX5_within b (-1000000) 1000000 = 0 from z3)]
      exact bad fun Q2 hQ2 => kX6_scale (d := 8) hs.2.1 hA (by rw [if_neg z, if_neg z1, if_neg z2, if_pos z3]; exact hQ2)
    rw [if_neg (show ¬ FX5_within b (-1000000) 1000000 = 0 from z3)]
    by_cases z4 : a < b
    · rw [if_pos z4]
      intro h1 hK1 hF1
      refine hQ _ h1 (zR6.of hs hK1 hF1 fun hM1 Q2 hQ2 => kX6_scale (d := 8) hM1 hA ?_)
      rw [if_neg z, if_neg z1, if_neg z2, if_neg z3, if_pos z4]
      intro h2 hM2 hF2
      rw [← a1.1] at hQ2
      exact hQ2 h2 _ _ cn rn Ln hM2 hF2 ⟨hr.axes (z_okS z1 z2 z3 z4 o1.2.2.2) o2 ⟨rfl, rfl, rfl, a1.2.2.2.1, a1.2.2.2.2.1, a1.2.2.2.2.2⟩ ⟨a2.1, a2.2.1, a2.2.2.1, a2.2.2.2.1, a2.2.2.2.2.1, a2.2.2.2.2.2⟩ rfl rfl rfl rfl (fun q q1 q2 => by rw [va_up_ne _ _ (by omega), va_up_ne _ _ (by omega), va_up_ne _ _ (by omega)]), z_stale, z_undrawn⟩
    · rw [if_neg z4]
      exact bad fun Q2 hQ2 => kX6_scale (d := 8) hs.2.1 hA (by rw [if_neg z, if_neg z1, if_neg z2, if_neg z3, if_neg z4]; exact hQ2)
  · rw [if_neg (show ¬ (1 : Int32) = 0 by decide), if_pos (rfl : (1 : Int32) = 1)]
    by_cases z1 : FX6_in k 0 1 = 0
    · rw [if_pos (show FX5_within k 0 1 = 0 from z1)]
      exact bad fun Q2 hQ2 => kX6_scale (d := 8) hs.2.1 hA (by rw [if_neg z, if_pos z1]; exact hQ2)
    rw [if_neg (show ¬ FX5_within k 0 1 = 0 from z1)]
    by_cases z2 : FX6_isValue a = 0
    · rw [if_pos (show FX5_within a (-1000000) 1000000 = 0 from z2)]
      exact bad fun Q2 hQ2 => kX6_scale (d := 8) hs.2.1 hA (by rw [if_neg z, if_neg z1, if_pos z2]; exact hQ2)
    rw [if_neg (show ¬ FX5_within a (-1000000) 1000000 = 0 from z2)]
    by_cases z3 : FX6_isValue b = 0
    · rw [if_pos (show FX5_within b (-1000000) 1000000 = 0 from z3)]
      exact bad fun Q2 hQ2 => kX6_scale (d := 8) hs.2.1 hA (by rw [if_neg z, if_neg z1, if_neg z2, if_pos z3]; exact hQ2)
    rw [if_neg (show ¬ FX5_within b (-1000000) 1000000 = 0 from z3)]
    by_cases z4 : a < b
    · rw [if_pos z4]
      intro h1 hK1 hF1
      refine hQ _ h1 (zR6.of hs hK1 hF1 fun hM1 Q2 hQ2 => kX6_scale (d := 8) hM1 hA ?_)
      rw [if_neg z, if_neg z1, if_neg z2, if_neg z3, if_pos z4]
      intro h2 hM2 hF2
      rw [← a2.1] at hQ2
      exact hQ2 h2 _ _ cn rn Ln hM2 hF2 ⟨hr.axes o1 (z_okS z1 z2 z3 z4 o2.2.2.2) ⟨a1.1, a1.2.1, a1.2.2.1, a1.2.2.2.1, a1.2.2.2.2.1, a1.2.2.2.2.2⟩ ⟨rfl, rfl, rfl, a2.2.2.2.1, a2.2.2.2.2.1, a2.2.2.2.2.2⟩ rfl rfl rfl rfl (fun q q1 q2 => by rw [va_up_ne _ _ (by omega), va_up_ne _ _ (by omega), va_up_ne _ _ (by omega)]), z_stale, z_undrawn⟩
    · rw [if_neg z4]
      exact bad fun Q2 hQ2 => kX6_scale (d := 8) hs.2.1 hA (by rw [if_neg z, if_neg z1, if_neg z2, if_neg z3, if_neg z4]; exact hQ2)
  · rw [if_neg z0, if_neg z1]
    exact bad fun Q2 hQ2 => kX6_scale (d := 8) hs.2.1 hA (by rw [if_pos z]; exact hQ2)
theorem zc_cut {ax a b : Int32} (hi : zInv G sc sm h) (hQ : ∀ (i : Int32) (h1 : xH), zR6 G l mX6_cut [.ref sm, .int ax, .int a, .int b] sc sm (.int i) h1 → Q (some (.int i)) h1) : xV G l mX5_cut 10 0 0 0 0 0 [.ref sc, .int ax, .int a, .int b, xU, xU] [] h Q := by
  obtain ⟨pg, sx, sy, al, ed, C, B, p, n, U, md, N, I, V, A, J, X, cn, rn, Ln, rfl, hs⟩ := hi
  have hz := hs.2.2.2.2.2.1
  have hr := hz.1
  have hA : ∀ {i j : Nat}, i ≠ j → A i ≠ A j := fun {i j} e => hs.2.2.2.1 i j e
  obtain ⟨o1, o2, a1, a2⟩ := hr.2.2.1
  have bad : ∀ (f : ∀ Q2 : Option Value → xH → Prop, Q2 (some (.int (-1))) h → xV G l mX6_cut 10 0 0 0 0 0 [.ref (A 0), .int ax, .int a, .int b] [] h Q2), Q (some (.int (-1))) h := fun f => hQ _ h (zR6.same hs f)
  have okC : ∀ S : xS, zOk S → ¬ a ≤ S.2.1 → ¬ b ≤ a → b < S.2.2.1 → zOk (2, S.2.1, S.2.2.1, a, b, S.2.2.2.2.2) := fun S ok q1 q2 q3 => by
    rw [fa_le] at q1 q2
    rw [fa_lt] at q3
    exact ⟨Or.inr (Or.inr rfl), ok.2.1, fun _ => ⟨by show S.2.1.toInt < a.toInt; omega, by show a.toInt < b.toInt; omega, q3⟩, ok.2.2.2⟩
  refine kX5_cut (d := 6) hs.1 hs.2.2.1 ?_
  rcases z_axis ax with ⟨rfl, z⟩ | ⟨rfl, z⟩ | ⟨z0, z1, z⟩
  · rw [if_pos rfl, ← a1.2.1, ← a1.2.2.1]
    by_cases z1 : a ≤ X 3 (Int32.toNatClampNeg 0)
    · rw [if_pos z1]
      exact bad fun Q2 hQ2 => kX6_cut (d := 8) hs.2.1 hA (by rw [if_neg z, if_pos z1]; exact hQ2)
    rw [if_neg z1]
    by_cases z2 : b ≤ a
    · rw [if_pos z2]
      exact bad fun Q2 hQ2 => kX6_cut (d := 8) hs.2.1 hA (by rw [if_neg z, if_neg z1, if_pos z2]; exact hQ2)
    rw [if_neg z2]
    by_cases z3 : b < X 4 (Int32.toNatClampNeg 0)
    · rw [if_pos z3]
      intro h1 hK1 hF1
      refine hQ _ h1 (zR6.of hs hK1 hF1 fun hM1 Q2 hQ2 => kX6_cut (d := 8) hM1 hA ?_)
      rw [if_neg z, if_neg z1, if_neg z2, if_pos z3]
      intro h2 hM2 hF2
      rw [← a1.1] at hQ2
      have ok := okC _ o1 (by rw [← a1.2.1]; exact z1) z2 (by rw [← a1.2.2.1]; exact z3)
      rw [← a1.2.1, ← a1.2.2.1] at ok
      exact hQ2 h2 _ _ cn rn Ln hM2 hF2 ⟨hr.axes ok o2 ⟨rfl, rfl, rfl, rfl, rfl, a1.2.2.2.2.2⟩ ⟨a2.1, a2.2.1, a2.2.2.1, a2.2.2.2.1, a2.2.2.2.2.1, a2.2.2.2.2.2⟩ rfl rfl rfl rfl (fun q q1 q2 => by rw [va_up_ne _ _ (by omega), va_up_ne _ _ (by omega), va_up_ne _ _ (by omega)]), z_stale, z_undrawn⟩
    · rw [if_neg z3]
      exact bad fun Q2 hQ2 => kX6_cut (d := 8) hs.2.1 hA (by rw [if_neg z, if_neg z1, if_neg z2, if_neg z3]; exact hQ2)
  · rw [if_neg (show ¬ (1 : Int32) = 0 by decide), if_pos (rfl : (1 : Int32) = 1), ← a2.2.1, ← a2.2.2.1]
    by_cases z1 : a ≤ X 3 (Int32.toNatClampNeg 1)
    · rw [if_pos z1]
      exact bad fun Q2 hQ2 => kX6_cut (d := 8) hs.2.1 hA (by rw [if_neg z, if_pos z1]; exact hQ2)
    rw [if_neg z1]
    by_cases z2 : b ≤ a
    · rw [if_pos z2]
      exact bad fun Q2 hQ2 => kX6_cut (d := 8) hs.2.1 hA (by rw [if_neg z, if_neg z1, if_pos z2]; exact hQ2)
    rw [if_neg z2]
    by_cases z3 : b < X 4 (Int32.toNatClampNeg 1)
    · rw [if_pos z3]
      intro h1 hK1 hF1
      refine hQ _ h1 (zR6.of hs hK1 hF1 fun hM1 Q2 hQ2 => kX6_cut (d := 8) hM1 hA ?_)
      rw [if_neg z, if_neg z1, if_neg z2, if_pos z3]
      intro h2 hM2 hF2
      rw [← a2.1] at hQ2
      have ok := okC _ o2 (by rw [← a2.2.1]; exact z1) z2 (by rw [← a2.2.2.1]; exact z3)
      rw [← a2.2.1, ← a2.2.2.1] at ok
      exact hQ2 h2 _ _ cn rn Ln hM2 hF2 ⟨hr.axes o1 ok ⟨a1.1, a1.2.1, a1.2.2.1, a1.2.2.2.1, a1.2.2.2.2.1, a1.2.2.2.2.2⟩ ⟨rfl, rfl, rfl, rfl, rfl, a2.2.2.2.2.2⟩ rfl rfl rfl rfl (fun q q1 q2 => by rw [va_up_ne _ _ (by omega), va_up_ne _ _ (by omega), va_up_ne _ _ (by omega)]), z_stale, z_undrawn⟩
    · rw [if_neg z3]
      exact bad fun Q2 hQ2 => kX6_cut (d := 8) hs.2.1 hA (by rw [if_neg z, if_neg z1, if_neg z2, if_neg z3]; exact hQ2)
  · rw [if_neg z0, if_neg z1]
    exact bad fun Q2 hQ2 => kX6_cut (d := 8) hs.2.1 hA (by rw [if_pos z]; exact hQ2)
end ZX
