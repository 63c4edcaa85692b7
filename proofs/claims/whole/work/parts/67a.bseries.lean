/-! BOTH: series -/
section ZSE
variable {G : xG} {l : Launch} {sc sm : Nat} {h : xH} {Q : Option Value → xH → Prop}
theorem zSt.told {pg sx sy al ed : Nat} {C : Nat → Nat} {B : Nat → Nat → Nat} {p : xPv} {n : Int32} {U : Nat → Nat → Int32} {md : Int32} {N : Nat} {I : Nat → xSi} {V : Nat → Nat → Nat → Int32} {A : Nat → Nat} {J : xMi} {X : Nat → Nat → Int32} {cn rn Ln : Nat} (hs : zSt G sc pg sx sy al ed C B p n U md N I V A J X cn rn Ln h) (t : zIx) (ht : zRl N t) (he : t ≠ i9ed) : ∃ c, h (zAd sc pg sx sy al ed C B A t) = some c := by
  obtain ⟨⟨k1, k2, k3, k4, k5, k6, k7⟩, hM, -⟩ := hs
  rcases t with _ | _ | _ | _ | _ | _ | i | ⟨k, j⟩ | k
  · exact ⟨_, k1⟩
  · exact ⟨_, k2.1⟩
  · exact ⟨_, k2.2.1⟩
  · exact ⟨_, k2.2.2⟩
  · exact ⟨_, k4⟩
  · exact absurd rfl he
  · skip
    have ht : i < 6 := ht
    rcases (show i = 0 ∨ i = 1 ∨ i = 2 ∨ i = 3 ∨ i = 4 ∨ i = 5 by omega) with rfl | rfl | rfl | rfl | rfl | rfl
    · exact ⟨_, k3.1⟩
    · exact ⟨_, k3.2.1⟩
    · exact ⟨_, k3.2.2.1⟩
    · exact ⟨_, k3.2.2.2.1⟩
    · exact ⟨_, k3.2.2.2.2.1⟩
    · exact ⟨_, k3.2.2.2.2.2⟩
  · skip
    have ht : k < N ∧ j < 8 := ht
    have s := k6 k ht.1
    have hj := ht.2
    rcases (show j = 0 ∨ j = 1 ∨ j = 2 ∨ j = 3 ∨ j = 4 ∨ j = 5 ∨ j = 6 ∨ j = 7 by omega) with rfl | rfl | rfl | rfl | rfl | rfl | rfl | rfl
    · exact ⟨_, s.1⟩
    · exact ⟨_, s.2.1⟩
    · exact ⟨_, s.2.2.1⟩
    · exact ⟨_, s.2.2.2.1⟩
    · exact ⟨_, s.2.2.2.2.1⟩
    · exact ⟨_, s.2.2.2.2.2.1⟩
    · exact ⟨_, s.2.2.2.2.2.2.1⟩
    · exact ⟨_, s.2.2.2.2.2.2.2⟩
  · rcases (show k = 0 ∨ xMn k ≠ 0 from ht) with rfl | q
    · exact ⟨_, hM.1⟩
    · exact ⟨_, hM.2 k q⟩
theorem z_sty0 {x : Int32} (h : ¬ FX6_isStyle 0 x = 0) : 0 ≤ x.toInt ∧ x.toInt ≤ 4 := by
  unfold FX6_isStyle at h
  rw [if_pos rfl] at h
  have z := in_iff.mp h
  rw [fa_lt, fa_lt, zi0, show (4 : Int32).toInt = 4 from rfl] at z
  omega
theorem z_sty1 {x : Int32} (h : ¬ FX6_isStyle 1 x = 0) : 0 ≤ x.toInt ∧ x.toInt ≤ 9 := by
  unfold FX6_isStyle at h
  rw [if_neg (show ¬ (1 : Int32) = 0 by decide), if_pos rfl] at h
  have z := in_iff.mp h
  rw [fa_lt, fa_lt, zi0, show (9 : Int32).toInt = 9 from rfl] at z
  omega
theorem z_sty2 {x : Int32} (h : ¬ FX6_isStyle 2 x = 0) : 33 ≤ x.toInt ∧ x.toInt ≤ 126 := by
  unfold FX6_isStyle at h
  rw [if_neg (show ¬ (2 : Int32) = 0 by decide), if_neg (show ¬ (2 : Int32) = 1 by decide), if_pos rfl] at h
  have h2 : ¬ FX6_in x 33 126 = 0 := fun z => h (if_pos z)
  have z := in_iff.mp h2
  rw [fa_lt, fa_lt, show (33 : Int32).toInt = 33 from rfl, show (126 : Int32).toInt = 126 from rfl] at z
  omega
/-- both stand alike with one more series -/
theorem z_relS {p : xPv} {n : Int32} {U : Nat → Nat → Int32} {N : Nat} {I : Nat → xSi} {V : Nat → Nat → Nat → Int32} {J : xMi} {X : Nat → Nat → Int32} {cn rn Ln : Nat} {x y z : Int32} (hz : zRel cn rn Ln p n U N I V J X) (hN : N < 6) (hx : 0 ≤ x.toInt ∧ x.toInt ≤ 4) (hy : 0 ≤ y.toInt ∧ y.toInt ≤ 9) (hw : 33 ≤ z.toInt ∧ z.toInt ≤ 126) : zRel cn rn Ln p n U (N + 1) (va_up I N (x, y, z, 0, 1)) (va_up V N (fun _ _ => 0)) (J.1, J.2.1, J.2.2.1 + 1, J.2.2.2.1, 0) (va_up (va_up (va_up (va_up X 8 (upd (X 8) N x)) 9 (upd (X 9) N y)) 10 (upd (X 10) N z)) 11 (upd (X 11) N 0)) := by
  obtain ⟨⟨d9, n9, ⟨o1, o2, a1, a2⟩, b9, sr9, lb9⟩, f1, f2⟩ := hz
  refine ⟨⟨d9, ⟨n9.1, ?_, n9.2.2.1, by omega, n9.2.2.2.2⟩, ⟨o1, o2, a1, a2⟩, fun k hk => ?_, fun k hk => ?_, lb9⟩, fun k hk e => ?_, fun q => absurd rfl q⟩
  · show J.2.2.1 + 1 = nI (N + 1)
    rw [n9.2.1, show (1 : Int32) = nI 1 from rfl, nI_add]
  · show (0 ≤ (upd (X 9) N y k).toInt ∧ (upd (X 9) N y k).toInt ≤ 9) ∧ (0 ≤ (upd (X 11) N 0 k).toInt ∧ (upd (X 11) N 0 k).toInt ≤ 24)
    by_cases e : k = N
    · rw [e, pk_us, pk_us]; exact ⟨hy, by decide⟩
    · rw [pk_un e, pk_un e]; exact b9 k hk
  · by_cases e : k = N
    · subst e
      rw [va_up_self, va_up_self]
      refine ⟨⟨?_, ?_, ?_, ?_⟩, ?_, ?_, fun i hi => ?_⟩
      · show x = upd (X 8) k x k; rw [pk_us]
      · show y = upd (X 9) k y k; rw [pk_us]
      · show z = upd (X 10) k z k; rw [pk_us]
      · show 0 = upd (X 11) k 0 k; rw [pk_us]
      · show 0 ≤ (upd (X 8) k x k).toInt ∧ (upd (X 8) k x k).toInt ≤ 4; rw [pk_us]; exact hx
      · show 33 ≤ (upd (X 10) k z k).toInt ∧ (upd (X 10) k z k).toInt ≤ 126; rw [pk_us]; exact hw
      · have hi : i < (upd (X 11) k 0 k).toNatClampNeg := hi
        rw [pk_us] at hi
        exact absurd hi (Nat.not_lt_zero i)
    · have s := sr9 k (by omega)
      rw [va_up_ne _ _ e, va_up_ne _ _ e]
      refine ⟨⟨?_, ?_, ?_, ?_⟩, ?_, ?_, fun i hi => ?_⟩
      · show (I k).1 = upd (X 8) N x k; rw [pk_un e]; exact s.1.1
      · show (I k).2.1 = upd (X 9) N y k; rw [pk_un e]; exact s.1.2.1
      · show (I k).2.2.1 = upd (X 10) N z k; rw [pk_un e]; exact s.1.2.2.1
      · show (I k).2.2.2.1 = upd (X 11) N 0 k; rw [pk_un e]; exact s.1.2.2.2
      · show 0 ≤ (upd (X 8) N x k).toInt ∧ (upd (X 8) N x k).toInt ≤ 4; rw [pk_un e]; exact s.2.1
      · show 33 ≤ (upd (X 10) N z k).toInt ∧ (upd (X 10) N z k).toInt ≤ 126; rw [pk_un e]; exact s.2.2.1
      · have hi : i < (upd (X 11) N 0 k).toNatClampNeg := hi
        rw [pk_un e] at hi
        exact s.2.2.2 i hi
  · by_cases q : k = N
    · subst q
      rw [va_up_self] at e
      exact absurd (show (1 : Int32) = 0 from e) (by decide)
    · rw [va_up_ne _ _ q] at e
      rw [va_up_ne _ _ q, va_up_ne _ _ q]
      exact f1 k (by omega) e
/-- behind a new series -/
theorem z_newS {pg sx sy al ed : Nat} {C : Nat → Nat} {B : Nat → Nat → Nat} {p : xPv} {n : Int32} {U : Nat → Nat → Int32} {md : Int32} {N : Nat} {I : Nat → xSi} {V : Nat → Nat → Nat → Int32} {A : Nat → Nat} {J : xMi} {X : Nat → Nat → Int32} {cn rn Ln : Nat} {x y z : Int32} {h1 : xH} {B' : Nat → Nat → Nat} {ed' : Nat} {md' : Int32} (hs : zSt G sc pg sx sy al ed C B p n U md N I V A J X cn rn Ln h) (hN : N < 6)
    (hx : ¬ FX6_isStyle 0 x = 0) (hy : ¬ FX6_isStyle 1 y = 0) (hz : ¬ FX6_isStyle 2 z = 0)
    (hB : ∀ k, k < N → ∀ j, B' k j = B k j) (ht : xTop h (B' N 0)) (hed : ed < B' N 0) (ho : B' N 0 < B' N 1 ∧ B' N 1 < B' N 2 ∧ B' N 2 < B' N 3 ∧ B' N 3 < B' N 4 ∧ B' N 4 < B' N 5 ∧ B' N 5 < B' N 6 ∧ B' N 6 < B' N 7) (he : B' N 7 < ed' ∨ ed' = ed)
    (hK : xCls G sc pg sx sy al ed' C B' p n U md' (N + 1) (va_up I N (x, y, z, 0, 1)) (va_up V N (fun _ _ => 0)) h1) (hF : ∀ b cc, h b = some cc → b ≠ al → b ≠ ed → h1 b = some cc) : zR6 G l mX6_series [.ref (A 0), .int x, .int y, .int z] sc (A 0) (.int (nI N)) h1 := by
  have inj0 := zAd_inj hs.2.2.1 hs.2.2.2.1 hs.2.2.2.2.1
  have told := hs.told
  have b7 : ∀ j, j < 8 → B' N 0 ≤ B' N j ∧ B' N j ≤ B' N 7 := fun j hj => by
    rcases (show j = 0 ∨ j = 1 ∨ j = 2 ∨ j = 3 ∨ j = 4 ∨ j = 5 ∨ j = 6 ∨ j = 7 by omega) with rfl | rfl | rfl | rfl | rfl | rfl | rfl | rfl <;> omega
  have bi : ∀ i j, i < 8 → j < 8 → B' N i = B' N j → i = j := fun i j hi hj e => by
    rcases (show i = 0 ∨ i = 1 ∨ i = 2 ∨ i = 3 ∨ i = 4 ∨ i = 5 ∨ i = 6 ∨ i = 7 by omega) with rfl | rfl | rfl | rfl | rfl | rfl | rfl | rfl <;> rcases (show j = 0 ∨ j = 1 ∨ j = 2 ∨ j = 3 ∨ j = 4 ∨ j = 5 ∨ j = 6 ∨ j = 7 by omega) with rfl | rfl | rfl | rfl | rfl | rfl | rfl | rfl <;> first | rfl | omega
  have old : ∀ t, zRl N t → zAd sc pg sx sy al ed C B A t < B' N 0 := fun t hr => by
    by_cases e : t = i9ed
    · subst e; exact hed
    · obtain ⟨c, hc⟩ := told t hr e; exact ht _ c hc
  have cls : ∀ t, zRl (N + 1) t → (zRl N t ∧ zAd sc pg sx sy al ed' C B' A t = zAd sc pg sx sy al ed C B A t) ∨ (∃ j, j < 8 ∧ t = i9B N j) ∨ (t = i9ed ∧ B' N 7 < ed') := by
    intro t hr
    rcases t with _ | _ | _ | _ | _ | _ | i | ⟨k, j⟩ | k
    · exact Or.inl ⟨trivial, rfl⟩
    · exact Or.inl ⟨trivial, rfl⟩
    · exact Or.inl ⟨trivial, rfl⟩
    · exact Or.inl ⟨trivial, rfl⟩
    · exact Or.inl ⟨trivial, rfl⟩
    · rcases he with q | q
      · exact Or.inr (Or.inr ⟨rfl, q⟩)
      · exact Or.inl ⟨trivial, q⟩
    · exact Or.inl ⟨hr, rfl⟩
    · have hr : k < N + 1 ∧ j < 8 := hr
      by_cases e : k = N
      · subst e; exact Or.inr (Or.inl ⟨j, hr.2, rfl⟩)
      · exact Or.inl ⟨⟨by omega, hr.2⟩, hB k (by omega) j⟩
    · exact Or.inl ⟨hr, rfl⟩
  have h07 := b7 7 (by omega)
  obtain ⟨xD', xA', xj'⟩ := z_ext (sc := sc) (pg := pg) (sx := sx) (sy := sy) (al := al) (ed := ed') (C := C) (B := B') (A := A) (N := N + 1) (M := B' N 7 + ed' + 1) (fun t hr => by
    rcases cls t hr with ⟨q, e⟩ | ⟨j, hj, e⟩ | ⟨e, q⟩
    · rw [e]; have := old t q; omega
    · rw [e]; have := b7 j hj; show B' N j < _; omega
    · rw [e]; show ed' < _; omega) (fun a b ha hb e => by
    rcases cls a ha with ⟨qa, ea⟩ | ⟨i, hi, ea⟩ | ⟨ea, qa⟩
    · rcases cls b hb with ⟨qb, eb⟩ | ⟨j, hj, eb⟩ | ⟨eb, qb⟩
      · rw [ea, eb] at e; exact inj0 a b e
      · rw [ea, eb] at e; have := old a qa; have := b7 j hj; have e : _ = B' N j := e; omega
      · rw [ea, eb] at e; have := old a qa; have e : _ = ed' := e; omega
    · rcases cls b hb with ⟨qb, eb⟩ | ⟨j, hj, eb⟩ | ⟨eb, qb⟩
      · rw [ea, eb] at e; have := old b qb; have := b7 i hi; have e : B' N i = _ := e; omega
      · rw [ea, eb] at e ⊢; have e : B' N i = B' N j := e; rw [bi i j hi hj e]
      · rw [ea, eb] at e; have := b7 i hi; have e : B' N i = ed' := e; omega
    · rcases cls b hb with ⟨qb, eb⟩ | ⟨j, hj, eb⟩ | ⟨eb, qb⟩
      · rw [ea, eb] at e; have := old b qb; have e : ed' = _ := e; omega
      · rw [ea, eb] at e; have := b7 j hj; have e : ed' = B' N j := e; omega
      · rw [ea, eb])
  generalize B' N 7 + ed' + 1 = M at xD' xA' xj'
  have hj := hs.2.2.2.2.1
  have hM1 : xMod G A J X h1 := ⟨hF _ _ hs.2.1.1 (hj 0).2.2.2.2.2.2.1 (hj 0).2.2.2.2.2.2.2, fun k hk => hF _ _ (hs.2.1.2 k hk) (hj k).2.2.2.2.2.2.1 (hj k).2.2.2.2.2.2.2⟩
  have hM2 : xMod G (eA9 M A) J X h1 := hM1.adr
  have e0 : A 0 = eA9 M A 0 := (eA9_r (Or.inl rfl)).symm
  have hr := hs.2.2.2.2.2.1
  have hN6 := hr.1.2.1
  have eN : J.2.2.1.toNatClampNeg = N := by rw [hN6.2.1, nI_clamp (by omega)]
  have eI : J.2.2.1.toInt = N := by rw [hN6.2.1, nI_toInt (by omega)]
  refine ⟨⟨_, hM1.1⟩, fun Q2 hQ2 => ?_⟩
  rw [e0] at hQ2 ⊢
  refine kX6_series (d := 8) hM2 (fun {i j} e => xA' i j e) (by omega) (by omega) ?_
  rw [if_neg hx, if_neg hy, if_neg hz, if_neg (fun q => by have q := congrArg Int32.toInt q; rw [eI, show (6 : Int32).toInt = 6 from rfl] at q; omega)]
  intro h2 hm2 hf2
  rw [eN] at hm2
  have ev : (J.2.2.1 + 1 : Int32) - 1 = nI N := by rw [hN6.2.1, show (1 : Int32) = nI 1 from rfl, nI_add]; exact nI_pred N
  rw [ev]
  exact hQ2 h2 (zSt.inv ⟨(hK.adr (M := M)).frM xj' hf2, hm2, xD', xA', xj', z_relS hr hN (z_sty0 hx) (z_sty1 hy) (z_sty2 hz), fun q => absurd q (Nat.succ_ne_zero N)⟩)
theorem zc_series {x y z : Int32} (hT3 : xT3 G < xB G) (hi : zInv G sc sm h) (hQ : ∀ (i : Int32) (h1 : xH), zR6 G l mX6_series [.ref sm, .int x, .int y, .int z] sc sm (.int i) h1 → Q (some (.int i)) h1) : xV G l mX5_series 10 9 1400 0 0 0 [.ref sc, .int x, .int y, .int z] [] h Q := by
  obtain ⟨pg, sx, sy, al, ed, C, B, p, n, U, md, N, I, V, A, J, X, cn, rn, Ln, rfl, hs⟩ := hi
  have hr := hs.2.2.2.2.2.1
  have hN6 := hr.1.2.1
  have hA : ∀ {i j : Nat}, i ≠ j → A i ≠ A j := fun {i j} e => hs.2.2.2.1 i j e
  have eI : J.2.2.1.toInt = N := by rw [hN6.2.1, nI_toInt (by omega)]
  by_cases hx : FX6_isStyle 0 x = 0
  · refine kX5_seriesB (d := 5) hs.1 (Or.inl (by rw [z_style]; exact hx)) (hQ _ h (zR6.same hs fun Q2 hQ2 => kX6_series (d := 8) hs.2.1 hA (by omega) (by omega) ?_))
    rw [if_pos hx]; exact hQ2
  by_cases hy : FX6_isStyle 1 y = 0
  · refine kX5_seriesB (d := 5) hs.1 (Or.inr (Or.inl (by rw [z_style]; exact hy))) (hQ _ h (zR6.same hs fun Q2 hQ2 => kX6_series (d := 8) hs.2.1 hA (by omega) (by omega) ?_))
    rw [if_neg hx, if_pos hy]; exact hQ2
  by_cases hz : FX6_isStyle 2 z = 0
  · refine kX5_seriesB (d := 5) hs.1 (Or.inr (Or.inr (by rw [z_style]; exact hz))) (hQ _ h (zR6.same hs fun Q2 hQ2 => kX6_series (d := 8) hs.2.1 hA (by omega) (by omega) ?_))
    rw [if_neg hx, if_neg hy, if_pos hz]; exact hQ2
  have hx5 : ¬ FX5_isStyle 0 x = 0 := by rw [z_style]; exact hx
  have hy5 : ¬ FX5_isStyle 1 y = 0 := by rw [z_style]; exact hy
  have hz5 : ¬ FX5_isStyle 2 z = 0 := by rw [z_style]; exact hz
  by_cases h6 : N = 6
  · refine kX5_seriesF (d := 5) hs.1 hx5 hy5 hz5 h6 (hQ _ h (zR6.same hs fun Q2 hQ2 => kX6_series (d := 8) hs.2.1 hA (by omega) (by omega) ?_))
    rw [if_neg hx, if_neg hy, if_neg hz, if_pos (by rw [hN6.2.1, h6]; rfl)]; exact hQ2
  by_cases h0 : N = 0
  · have he := hs.2.2.2.2.2.2 h0
    exact kX5_series1 (d := 5) hs.1 hs.2.2.1 hx5 hy5 hz5 (by omega) h0 he (fun h1 B' ed' md' hB ht hb ho he' hK hF => hQ _ h1 (z_newS hs (by omega) hx hy hz hB ht (by omega) ho he' hK hF))
  · exact kX5_seriesM (d := 5) hs.1 hs.2.2.1 hx5 hy5 hz5 (by omega) h0 (fun h1 B' ed' md' hB ht hb ho he' hK hF => hQ _ h1 (z_newS hs (by omega) hx hy hz hB ht (ht _ _ (hs.1.2.2.2.2.1 h0)) ho he' hK hF))
end ZSE
