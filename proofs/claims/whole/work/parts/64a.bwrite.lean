/-! BOTH: fit, style, point, gap, drop -/
section ZY
variable {G : xG} {l : Launch} {sc sm : Nat} {h : xH} {Q : Option Value → xH → Prop}
theorem zc_fit {ax : Int32} (hi : zInv G sc sm h) (hQ : ∀ (i : Int32) (h1 : xH), zR6 G l mX6_fit [.ref sm, .int ax, xU, xU, xU, xU, xU, xU] sc sm (.int i) h1 → Q (some (.int i)) h1) : xV G l mX5_fit 10 0 0 0 0 0 [.ref sc, .int ax, xU, xU, xU, xU, xU] [] h Q := by
  obtain ⟨pg, sx, sy, al, ed, C, B, p, n, U, md, N, I, V, A, J, X, cn, rn, Ln, rfl, hs⟩ := hi
  have hz := hs.2.2.2.2.2.1
  have hr := hz.1
  have hc := hz.cls
  have rd := hs.rdy
  have hA : ∀ {i j : Nat}, i ≠ j → A i ≠ A j := fun {i j} e => hs.2.2.2.1 i j e
  obtain ⟨o1, o2, a1, a2⟩ := hr.2.2.1
  obtain ⟨ef, b1, b2⟩ := z_fit hr ax
  generalize hF : fitR N I V ax = F at ef b1 b2
  have e6 : (1000000 : Int32).toInt = 1000000 := rfl
  have bad : ∀ (v : Int32) (f : ∀ Q2 : Option Value → xH → Prop, Q2 (some (.int v)) h → xV G l mX6_fit 10 0 0 0 0 0 [.ref (A 0), .int ax, xU, xU, xU, xU, xU, xU] [] h Q2), Q (some (.int v)) h := fun v f => hQ _ h (zR6.same hs f)
  have hiI : F.1 ≤ F.2 → (if F.1 = F.2 then (F.2 + (1 : Int32)) else F.2).toInt = if F.1.toInt = F.2.toInt then F.2.toInt + 1 else F.2.toInt := fun q => by
    rw [fa_le] at q
    by_cases e : F.1 = F.2
    · rw [if_pos e, if_pos (by rw [e]), fb_addI] <;> rw [zi1] <;> omega
    · rw [if_neg e, if_neg (fun t => e (zinj t))]
  have okF : ∀ S : xS, zOk S → F.1 ≤ F.2 → (if F.1 = F.2 then (F.2 + (1 : Int32)) else F.2) ≤ (1000000 : Int32) → zOk (0, F.1, (if F.1 = F.2 then (F.2 + (1 : Int32)) else F.2), S.2.2.2.1, S.2.2.2.2.1, S.2.2.2.2.2) := fun S ok q1 q2 => by
    have e := hiI q1
    rw [fa_le, e6, e] at q2
    rw [fa_le] at q1
    refine ⟨Or.inl rfl, ⟨b1, ?_, ?_⟩, fun t => absurd t (by show ¬ (0 : Int32) = 2; decide), ok.2.2.2⟩
    · show F.1.toInt < (if F.1 = F.2 then (F.2 + (1 : Int32)) else F.2).toInt
      rw [e]; split <;> omega
    · show (if F.1 = F.2 then (F.2 + (1 : Int32)) else F.2).toInt ≤ 1000000
      rw [e]; exact q2
  have iff9 : F.1 ≤ F.2 → ((if F.1 = F.2 then (F.2 + (1 : Int32)) else F.2) ≤ (1000000 : Int32) ↔ ¬ F.1 = 1000000) := fun q1 => by
    have e := hiI q1
    rw [fa_le, e6, e]
    rw [fa_le] at q1
    constructor
    · intro q t
      have t2 : F.1.toInt = 1000000 := by rw [t]; rfl
      split at q <;> omega
    · intro q
      have t2 : F.1.toInt ≠ 1000000 := fun t => q (zinj t)
      split <;> omega
  refine kX5_fit (d := 6) hs.1 hs.2.2.1 hc.1 ?_
  rw [hF]
  rcases z_axis ax with ⟨rfl, z⟩ | ⟨rfl, z⟩ | ⟨z0, z1, z⟩
  · rw [if_pos rfl]
    by_cases q1 : F.1 ≤ F.2
    · rw [if_pos q1]
      by_cases q2 : (if F.1 = F.2 then (F.2 + (1 : Int32)) else F.2) ≤ (1000000 : Int32)
      · rw [if_pos q2]
        intro h1 hK1 hF1
        refine hQ _ h1 (zR6.of hs hK1 hF1 fun hM1 Q2 hQ2 => kX6_fit (d := 8) hM1 hA rd.1.2 rd.1.1 rd.2.2.1 ?_)
        rw [ef, if_neg z, if_neg (Int32.not_lt.mpr q1), if_neg ((iff9 q1).mp q2)]
        intro h2 hM2 hF2
        exact hQ2 h2 _ _ cn rn Ln hM2 hF2 ⟨hr.axes (okF _ o1 q1 q2) o2 ⟨rfl, rfl, rfl, a1.2.2.2.1, a1.2.2.2.2.1, a1.2.2.2.2.2⟩ ⟨a2.1, a2.2.1, a2.2.2.1, a2.2.2.2.1, a2.2.2.2.2.1, a2.2.2.2.2.2⟩ rfl rfl rfl rfl (fun q q1 q2 => by rw [va_up_ne _ _ (by omega), va_up_ne _ _ (by omega), va_up_ne _ _ (by omega)]), z_stale, z_undrawn⟩
      · rw [if_neg q2]
        exact bad _ fun Q2 hQ2 => kX6_fit (d := 8) hs.2.1 hA rd.1.2 rd.1.1 rd.2.2.1 (by rw [ef, if_neg z, if_neg (Int32.not_lt.mpr q1), if_pos (Classical.byContradiction fun t => q2 ((iff9 q1).mpr t))]; exact hQ2)
    · rw [if_neg q1]
      exact bad _ fun Q2 hQ2 => kX6_fit (d := 8) hs.2.1 hA rd.1.2 rd.1.1 rd.2.2.1 (by rw [ef, if_neg z, if_pos (Int32.not_le.mp q1)]; exact hQ2)
  · rw [if_neg (show ¬ (1 : Int32) = 0 by decide), if_pos (rfl : (1 : Int32) = 1)]
    by_cases q1 : F.1 ≤ F.2
    · rw [if_pos q1]
      by_cases q2 : (if F.1 = F.2 then (F.2 + (1 : Int32)) else F.2) ≤ (1000000 : Int32)
      · rw [if_pos q2]
        intro h1 hK1 hF1
        refine hQ _ h1 (zR6.of hs hK1 hF1 fun hM1 Q2 hQ2 => kX6_fit (d := 8) hM1 hA rd.1.2 rd.1.1 rd.2.2.1 ?_)
        rw [ef, if_neg z, if_neg (Int32.not_lt.mpr q1), if_neg ((iff9 q1).mp q2)]
        intro h2 hM2 hF2
        exact hQ2 h2 _ _ cn rn Ln hM2 hF2 ⟨hr.axes o1 (okF _ o2 q1 q2) ⟨a1.1, a1.2.1, a1.2.2.1, a1.2.2.2.1, a1.2.2.2.2.1, a1.2.2.2.2.2⟩ ⟨rfl, rfl, rfl, a2.2.2.2.1, a2.2.2.2.2.1, a2.2.2.2.2.2⟩ rfl rfl rfl rfl (fun q q1 q2 => by rw [va_up_ne _ _ (by omega), va_up_ne _ _ (by omega), va_up_ne _ _ (by omega)]), z_stale, z_undrawn⟩
      · rw [if_neg q2]
        exact bad _ fun Q2 hQ2 => kX6_fit (d := 8) hs.2.1 hA rd.1.2 rd.1.1 rd.2.2.1 (by rw [ef, if_neg z, if_neg (Int32.not_lt.mpr q1), if_pos (Classical.byContradiction fun t => q2 ((iff9 q1).mpr t))]; exact hQ2)
    · rw [if_neg q1]
      exact bad _ fun Q2 hQ2 => kX6_fit (d := 8) hs.2.1 hA rd.1.2 rd.1.1 rd.2.2.1 (by rw [ef, if_neg z, if_pos (Int32.not_le.mp q1)]; exact hQ2)
  · rw [if_neg z0, if_neg z1]
    exact bad _ fun Q2 hQ2 => kX6_fit (d := 8) hs.2.1 hA rd.1.2 rd.1.1 rd.2.2.1 (by rw [if_pos z]; exact hQ2)
theorem z_frj {p : xPv} {N : Nat} {I : Nat → xSi} {V : Nat → Nat → Nat → Int32} {j : Nat} {A : xSi} {W : Nat → Nat → Int32} (h : zFrC p N I V) (hj : A.2.2.2.2 = 0 → FX3_draw p A W = (W 6, W 7)) : zFrC p N (va_up I j A) (va_up V j W) := by
  intro k hk
  by_cases e : k = j
  · subst e; rw [va_up_self, va_up_self]; exact hj
  · rw [va_up_ne _ _ e, va_up_ne _ _ e]; exact h k hk
theorem zc_style {s w v : Int32} (hi : zInv G sc sm h) (hQ : ∀ (i : Int32) (h1 : xH), zR6 G l mX6_style [.ref sm, .int s, .int w, .int v, xU] sc sm (.int i) h1 → Q (some (.int i)) h1) : xV G l mX5_style 10 0 0 0 0 0 [.ref sc, .int s, .int w, .int v, xU] [] h Q := by
  obtain ⟨pg, sx, sy, al, ed, C, B, p, n, U, md, N, I, V, A, J, X, cn, rn, Ln, rfl, hs⟩ := hi
  have hz := hs.2.2.2.2.2.1
  have hr := hz.1
  have rd := hs.rdy
  have h6 := hr.2.1
  have hA : ∀ {i j : Nat}, i ≠ j → A i ≠ A j := fun {i j} e => hs.2.2.2.1 i j e
  rcases z_isSer hr s with ⟨z, hn⟩ | ⟨z, j, hj, rfl⟩
  · refine kX5_styleN (d := 6) hs.1 hn (hQ _ h (zR6.same hs fun Q2 hQ2 => kX6_style (d := 8) hs.2.1 hA rd.1.2 rd.1.1 ?_))
    rw [if_pos z]; exact hQ2
  · refine kX5_styleJ (d := 6) hs.1 hs.2.2.1 hj ?_
    rw [z_style]
    by_cases z1 : FX6_isStyle w v = 0
    · rw [if_pos z1]
      refine hQ _ h (zR6.same hs fun Q2 hQ2 => kX6_style (d := 8) hs.2.1 hA rd.1.2 rd.1.1 ?_)
      rw [if_neg z, if_pos z1]; exact hQ2
    rw [if_neg z1]
    have ej : (nI j).toNatClampNeg = j := nI_clamp (by omega)
    have sr := hr.2.2.2.2.1 j hj
    have e4 : (4 : Int32).toInt = 4 := rfl
    have e9 : (9 : Int32).toInt = 9 := rfl
    have e33 : (33 : Int32).toInt = 33 := rfl
    have e126 : (126 : Int32).toInt = 126 := rfl
    -- the reference's new state, whatever has been set
    have rel : ∀ (m y g t : Int32), (0 ≤ m.toInt ∧ m.toInt ≤ 4) → (0 ≤ y.toInt ∧ y.toInt ≤ 9) → (33 ≤ g.toInt ∧ g.toInt ≤ 126) → (t = 0 → FX3_draw p (m, y, g, (I j).2.2.2.1, t) (V j) = (V j 6, V j 7)) → zRel cn rn Ln p n U N (va_up I j (m, y, g, (I j).2.2.2.1, t)) V (J.1, J.2.1, J.2.2.1, J.2.2.2.1, 0) (va_up (va_up (va_up X 8 (upd (X 8) j m)) 9 (upd (X 9) j y)) 10 (upd (X 10) j g)) := by
      intro m y g t hm hy hg ht
      obtain ⟨d9, n9, ⟨o1, o2, a1, a2⟩, b9, sr9, lb9⟩ := hr
      refine ⟨⟨d9, n9, ⟨o1, o2, a1, a2⟩, fun k hk => ?_, fun k hk => ?_, lb9⟩, ?_, z_undrawn⟩
      · refine ⟨?_, (b9 k hk).2⟩
        show 0 ≤ (upd (X 9) j y k).toInt ∧ (upd (X 9) j y k).toInt ≤ 9
        by_cases e : k = j
        · rw [e, pk_us]; exact hy
        · rw [pk_un e]; exact (b9 k hk).1
      · by_cases e : k = j
        · subst e
          rw [va_up_self]
          refine ⟨⟨?_, ?_, ?_, sr.1.2.2.2⟩, ?_, ?_, sr.2.2.2⟩
          · show m = upd (X 8) k m k; rw [pk_us]
          · show y = upd (X 9) k y k; rw [pk_us]
          · show g = upd (X 10) k g k; rw [pk_us]
          · show 0 ≤ (upd (X 8) k m k).toInt ∧ (upd (X 8) k m k).toInt ≤ 4; rw [pk_us]; exact hm
          · show 33 ≤ (upd (X 10) k g k).toInt ∧ (upd (X 10) k g k).toInt ≤ 126; rw [pk_us]; exact hg
        · rw [va_up_ne _ _ e]
          have s9 := sr9 k hk
          refine ⟨⟨?_, ?_, ?_, s9.1.2.2.2⟩, ?_, ?_, s9.2.2.2⟩
          · show (I k).1 = upd (X 8) j m k; rw [pk_un e]; exact s9.1.1
          · show (I k).2.1 = upd (X 9) j y k; rw [pk_un e]; exact s9.1.2.1
          · show (I k).2.2.1 = upd (X 10) j g k; rw [pk_un e]; exact s9.1.2.2.1
          · show 0 ≤ (upd (X 8) j m k).toInt ∧ (upd (X 8) j m k).toInt ≤ 4; rw [pk_un e]; exact s9.2.1
          · show 33 ≤ (upd (X 10) j g k).toInt ∧ (upd (X 10) j g k).toInt ≤ 126; rw [pk_un e]; exact s9.2.2.1
      · have := z_frj (j := j) (A := (m, y, g, (I j).2.2.2.1, t)) (W := V j) hz.2.1 ht
        rw [xups] at this
        exact this
    have by9 := (hr.2.2.2.1 j (by omega)).1
    have done : ∀ (a : Int32) (h1 : xH) (m y g t : Int32), xCls G sc pg sx sy al ed C B p n U md N (va_up I j (m, y, g, (I j).2.2.2.1, t)) V h1 → xfrK sc pg sx sy al ed C B h h1 → m = (if w = 0 then v else X 8 j) → y = (if w = 1 then v else X 9 j) → g = (if w = 2 then v else X 10 j) → a = (if w = 0 then X 8 j else (if w = 1 then X 9 j else X 10 j)) → (0 ≤ m.toInt ∧ m.toInt ≤ 4) → (0 ≤ y.toInt ∧ y.toInt ≤ 9) → (33 ≤ g.toInt ∧ g.toInt ≤ 126) → (t = 0 → FX3_draw p (m, y, g, (I j).2.2.2.1, t) (V j) = (V j 6, V j 7)) → Q (some (.int a)) h1 := by
      intro a h1 m y g t hK1 hF1 em ey eg ea hm hy hg ht
      refine hQ _ h1 (zR6.of hs hK1 hF1 fun hM1 Q2 hQ2 => kX6_style (d := 8) hM1 hA rd.1.2 rd.1.1 ?_)
      rw [if_neg z, if_neg z1, ej]
      intro h2 hM2 hF2
      rw [← em, ← ey, ← eg] at hM2
      rw [← ea]
      exact hQ2 h2 _ _ cn rn Ln hM2 hF2 (rel m y g t hm hy hg ht)
    by_cases w0 : w = 0
    · rw [if_pos w0]
      intro h1 hK1 hF1
      rw [sr.1.1]
      have y1 : ¬ FX6_in v 0 4 = 0 := by unfold FX6_isStyle at z1; rw [if_pos w0] at z1; exact z1
      have y1 := in_iff.mp y1
      rw [fa_lt, fa_lt, zi0, e4] at y1
      exact done _ h1 v _ _ 1 hK1 hF1 (by rw [if_pos w0]) (by rw [w0, if_neg (by decide)]; exact sr.1.2.1) (by rw [w0, if_neg (by decide)]; exact sr.1.2.2.1) (by rw [if_pos w0]) (by omega) (by rw [sr.1.2.1]; exact by9) (by rw [sr.1.2.2.1]; exact sr.2.2.1) (fun q => absurd q (by decide))
    rw [if_neg w0]
    by_cases w1 : w = 1
    · rw [if_pos w1]
      intro h1 hK1 hF1
      rw [sr.1.2.1]
      have y1 : ¬ FX6_in v 0 9 = 0 := by unfold FX6_isStyle at z1; rw [if_neg w0, if_pos w1] at z1; exact z1
      have y1 := in_iff.mp y1
      rw [fa_lt, fa_lt, zi0, e9] at y1
      exact done _ h1 _ v _ _ hK1 hF1 (by rw [if_neg w0]; exact sr.1.1) (by rw [if_pos w1]) (by rw [w1, if_neg (by decide)]; exact sr.1.2.2.1) (by rw [if_neg w0, if_pos w1]) (by rw [sr.1.1]; exact sr.2.1) (by omega) (by rw [sr.1.2.2.1]; exact sr.2.2.1) (fun q => (draw_cong (p := p) (I := ((I j).1, v, (I j).2.2.1, (I j).2.2.2.1, (I j).2.2.2.2)) (V := V j) (I' := I j) (V' := V j) rfl rfl rfl rfl rfl rfl).trans (hz.2.1 j hj q))
    rw [if_neg w1]
    by_cases w2 : w = 2
    · rw [if_pos w2]
      intro h1 hK1 hF1
      rw [sr.1.2.2.1]
      have y1 : ¬ FX6_in v 33 126 = 0 := fun q => by
        unfold FX6_isStyle at z1
        rw [if_neg w0, if_neg w1, if_pos w2, if_pos q] at z1
        exact z1 rfl
      have y1 := in_iff.mp y1
      rw [fa_lt, fa_lt, e33, e126] at y1
      exact done _ h1 _ _ v _ hK1 hF1 (by rw [if_neg w0]; exact sr.1.1) (by rw [if_neg w1]; exact sr.1.2.1) (by rw [if_pos w2]) (by rw [if_neg w0, if_neg w1]) (by rw [sr.1.1]; exact sr.2.1) (by rw [sr.1.2.1]; exact by9) (by omega) (fun q => (draw_cong (p := p) (I := ((I j).1, (I j).2.1, v, (I j).2.2.2.1, (I j).2.2.2.2)) (V := V j) (I' := I j) (V' := V j) rfl rfl rfl rfl rfl rfl).trans (hz.2.1 j hj q))
    · exfalso
      unfold FX6_isStyle at z1
      rw [if_neg w0, if_neg w1, if_neg w2] at z1
      exact z1 rfl
/-- a point, or a gap, more -/
theorem z_add {cn rn Ln : Nat} {p : xPv} {n : Int32} {U : Nat → Nat → Int32} {N : Nat} {I : Nat → xSi} {V : Nat → Nat → Nat → Int32} {J : xMi} {X : Nat → Nat → Int32} (hz : zRel cn rn Ln p n U N I V J X) {j : Nat} (hj : j < N) {g a b q : Int32} (hlt : (I j).2.2.2.1 < 24) (ha : -1000000 ≤ a.toInt ∧ a.toInt ≤ 1000000) (hb : -1000000 ≤ b.toInt ∧ b.toInt ≤ 1000000) (hq : 0 ≤ q.toInt ∧ q.toInt ≤ 1000000) :
    zRel cn rn Ln p n U N (va_up I j (addI (I j))) (va_up V j (addV (I j) (V j) g a b q)) (J.1, J.2.1, J.2.2.1, J.2.2.2.1, (0 : Int32)) (va_up (va_up (va_up (va_up (va_up X 12 (upd (X 12) (Int32.toNatClampNeg (((24 : Int32) * nI j) + X 11 (Int32.toNatClampNeg (nI j)))) a)) 13 (upd (X 13) (Int32.toNatClampNeg (((24 : Int32) * nI j) + X 11 (Int32.toNatClampNeg (nI j)))) b)) 14 (upd (X 14) (Int32.toNatClampNeg (((24 : Int32) * nI j) + X 11 (Int32.toNatClampNeg (nI j)))) q)) 15 (upd (X 15) (Int32.toNatClampNeg (((24 : Int32) * nI j) + X 11 (Int32.toNatClampNeg (nI j)))) g)) 11 (upd (X 11) (Int32.toNatClampNeg (nI j)) (X 11 (Int32.toNatClampNeg (nI j)) + (1 : Int32)))) := by
  have hr := hz.1
  have h6 := hr.2.1
  have s := hr.sz hj
  have ez : (I j).2.2.2.1 = X 11 j := (hr.2.2.2.2.1 j hj).1.2.2.2
  have e24 : (24 : Int32).toInt = 24 := rfl
  have ej : (nI j).toNatClampNeg = j := nI_clamp (by omega)
  rw [ez, fa_lt, e24] at hlt
  generalize hm : (X 11 j).toNatClampNeg = m at s
  have em : X 11 j = nI m := s.2.1
  have m24 : m < 24 := by omega
  have ei : Int32.toNatClampNeg (((24 : Int32) * nI j) + X 11 (Int32.toNatClampNeg (nI j))) = 24 * j + m := by rw [ej, em, z24 s.2.2.1 m24]
  rw [ei, ej]
  have e1 : X 11 j + 1 = nI (m + 1) := by rw [em, nI_1]
  obtain ⟨d9, n9, o9, b9, sr9, lb9⟩ := hr
  refine ⟨⟨d9, n9, o9, fun k hk => ?_, fun k hk => ?_, lb9⟩, z_frj hz.2.1 (fun q => absurd q (by show ¬ (1 : Int32) = 0; decide)), z_undrawn⟩
  · refine ⟨(b9 k hk).1, ?_⟩
    show 0 ≤ (upd (X 11) j (X 11 j + 1) k).toInt ∧ (upd (X 11) j (X 11 j + 1) k).toInt ≤ 24
    by_cases e : k = j
    · rw [e, pk_us, e1, nI_toInt (by omega)]; omega
    · rw [pk_un e]; exact (b9 k hk).2
  · have s9 := sr9 k hk
    by_cases e : k = j
    · subst e
      rw [va_up_self, va_up_self]
      have eU : upd (X 11) k (X 11 k + 1) k = nI (m + 1) := by rw [pk_us, e1]
      refine ⟨⟨s9.1.1, s9.1.2.1, s9.1.2.2.1, ?_⟩, s9.2.1, s9.2.2.1, ?_⟩
      · show (I k).2.2.2.1 + 1 = upd (X 11) k (X 11 k + 1) k
        rw [ez, pk_us]
      · show ∀ i, i < (upd (X 11) k (X 11 k + 1) k).toNatClampNeg → ((upd (V k 1) (Int32.toNatClampNeg (I k).2.2.2.1) a i = upd (X 12) (24 * k + m) a (24 * k + i) ∧ upd (V k 2) (Int32.toNatClampNeg (I k).2.2.2.1) b i = upd (X 13) (24 * k + m) b (24 * k + i) ∧ upd (V k 3) (Int32.toNatClampNeg (I k).2.2.2.1) q i = upd (X 14) (24 * k + m) q (24 * k + i) ∧ upd (V k 4) (Int32.toNatClampNeg (I k).2.2.2.1) g i = upd (X 15) (24 * k + m) g (24 * k + i)) ∧ (-1000000 ≤ (upd (V k 1) (Int32.toNatClampNeg (I k).2.2.2.1) a i).toInt ∧ (upd (V k 1) (Int32.toNatClampNeg (I k).2.2.2.1) a i).toInt ≤ 1000000) ∧ (-1000000 ≤ (upd (V k 2) (Int32.toNatClampNeg (I k).2.2.2.1) b i).toInt ∧ (upd (V k 2) (Int32.toNatClampNeg (I k).2.2.2.1) b i).toInt ≤ 1000000) ∧ (0 ≤ (upd (V k 3) (Int32.toNatClampNeg (I k).2.2.2.1) q i).toInt ∧ (upd (V k 3) (Int32.toNatClampNeg (I k).2.2.2.1) q i).toInt ≤ 1000000))
        rw [eU, nI_clamp (by omega), ez, em, nI_clamp (by omega)]
        intro i hi
        by_cases e9 : i = m
        · subst e9
          simp only [pk_us]
          refine ⟨?_, ha, hb, hq⟩
          simp
        · have o := s9.2.2.2 i (by rw [em, nI_clamp (by omega)]; omega)
          rw [pk_un e9, pk_un e9, pk_un e9, pk_un e9, pk_un (by omega), pk_un (by omega), pk_un (by omega), pk_un (by omega)]
          exact o
    · rw [va_up_ne _ _ e, va_up_ne _ _ e]
      have sk := (hz.1).sz hk
      refine ⟨⟨s9.1.1, s9.1.2.1, s9.1.2.2.1, ?_⟩, s9.2.1, s9.2.2.1, ?_⟩
      · show (I k).2.2.2.1 = upd (X 11) j (X 11 j + 1) k
        rw [pk_un e]; exact s9.1.2.2.2
      · show ∀ i, i < (upd (X 11) j (X 11 j + 1) k).toNatClampNeg → ((V k 1 i = upd (X 12) (24 * j + m) a (24 * k + i) ∧ V k 2 i = upd (X 13) (24 * j + m) b (24 * k + i) ∧ V k 3 i = upd (X 14) (24 * j + m) q (24 * k + i) ∧ V k 4 i = upd (X 15) (24 * j + m) g (24 * k + i)) ∧ (-1000000 ≤ (V k 1 i).toInt ∧ (V k 1 i).toInt ≤ 1000000) ∧ (-1000000 ≤ (V k 2 i).toInt ∧ (V k 2 i).toInt ≤ 1000000) ∧ (0 ≤ (V k 3 i).toInt ∧ (V k 3 i).toInt ≤ 1000000))
        rw [pk_un e]
        intro i hi
        have ne : 24 * k + i ≠ 24 * j + m := by omega
        rw [pk_un ne, pk_un ne, pk_un ne, pk_un ne]
        exact s9.2.2.2 i hi
theorem z_full {cn rn Ln : Nat} {p : xPv} {n : Int32} {U : Nat → Nat → Int32} {N : Nat} {I : Nat → xSi} {V : Nat → Nat → Nat → Int32} {J : xMi} {X : Nat → Nat → Int32} (hr : zRel0 cn rn Ln p n U N I V J X) {j : Nat} (hj : j < N) : (I j).2.2.2.1 < 24 ↔ ¬ X 11 (Int32.toNatClampNeg (nI j)) = 24 := by
  have h6 := hr.2.1
  have s := hr.sz hj
  have ez : (I j).2.2.2.1 = X 11 j := (hr.2.2.2.2.1 j hj).1.2.2.2
  have e24 : (24 : Int32).toInt = 24 := rfl
  rw [nI_clamp (by omega), ez, fa_lt, fa_eq, e24]
  omega
theorem z_ptin {cn rn Ln : Nat} {p : xPv} {n : Int32} {U : Nat → Nat → Int32} {N : Nat} {I : Nat → xSi} {V : Nat → Nat → Nat → Int32} {J : xMi} {X : Nat → Nat → Int32} (hr : zRel0 cn rn Ln p n U N I V J X) {s : Int32} : vp_in s 6 → ¬ X 11 (Int32.toNatClampNeg s) = 24 → vp_in ((24 * s) + X 11 (Int32.toNatClampNeg s)) 144 := by
  intro h1 h2
  obtain ⟨k, hk, rfl⟩ := vp_in_of h1 (by decide)
  have b := (hr.2.2.2.1 k hk).2
  rw [nI_clamp (by omega)] at h2 ⊢
  have e24 : (24 : Int32).toInt = 24 := rfl
  rw [fa_eq, e24] at h2
  obtain ⟨m, hm, e⟩ := z_nat (x := X 11 k) (n := 24) (by omega) (by omega) (by decide)
  rw [e]
  exact mp_in hk hm
theorem zc_point {s a b q : Int32} (hi : zInv G sc sm h) (hQ : ∀ (i : Int32) (h1 : xH), zR6 G l mX6_point [.ref sm, .int s, .int a, .int b, .int q] sc sm (.int i) h1 → Q (some (.int i)) h1) : xV G l mX5_point 10 0 0 0 0 0 [.ref sc, .int s, .int a, .int b, .int q, xU] [] h Q := by
  obtain ⟨pg, sx, sy, al, ed, C, B, p, n, U, md, N, I, V, A, J, X, cn, rn, Ln, rfl, hs⟩ := hi
  have hz := hs.2.2.2.2.2.1
  have hr := hz.1
  have rd := hs.rdy
  have hc := hz.cls
  have h6 := hr.2.1
  have hA : ∀ {i j : Nat}, i ≠ j → A i ≠ A j := fun {i j} e => hs.2.2.2.1 i j e
  have bad : ∀ (v : Int32) (f : ∀ Q2 : Option Value → xH → Prop, Q2 (some (.int v)) h → xV G l mX6_point 10 0 0 0 0 0 [.ref (A 0), .int s, .int a, .int b, .int q] [] h Q2), Q (some (.int v)) h := fun v f => hQ _ h (zR6.same hs f)
  rcases z_isSer hr s with ⟨z, hn⟩ | ⟨z, j, hj, rfl⟩
  · exact kX5_pointN (d := 6) hs.1 hn (bad _ fun Q2 hQ2 => kX6_point (d := 8) hs.2.1 hA rd.1.2 rd.1.1 (z_ptin hr) (by rw [if_pos z]; exact hQ2))
  · refine kX5_pointJ (d := 6) hs.1 hs.2.2.1 hj hc.2.2.2.2.2 ?_
    by_cases z1 : FX6_isValue a = 0
    · rw [if_pos (show FX5_within a (-1000000) 1000000 = 0 from z1)]
      exact bad _ fun Q2 hQ2 => kX6_point (d := 8) hs.2.1 hA rd.1.2 rd.1.1 (z_ptin hr) (by rw [if_neg z, if_pos z1]; exact hQ2)
    rw [if_neg (show ¬ FX5_within a (-1000000) 1000000 = 0 from z1)]
    by_cases z2 : FX6_isValue b = 0
    · rw [if_pos (show FX5_within b (-1000000) 1000000 = 0 from z2)]
      exact bad _ fun Q2 hQ2 => kX6_point (d := 8) hs.2.1 hA rd.1.2 rd.1.1 (z_ptin hr) (by rw [if_neg z, if_neg z1, if_pos z2]; exact hQ2)
    rw [if_neg (show ¬ FX5_within b (-1000000) 1000000 = 0 from z2)]
    by_cases z3 : FX6_in q 0 1000000 = 0
    · rw [if_pos (show FX5_within q 0 1000000 = 0 from z3)]
      exact bad _ fun Q2 hQ2 => kX6_point (d := 8) hs.2.1 hA rd.1.2 rd.1.1 (z_ptin hr) (by rw [if_neg z, if_neg z1, if_neg z2, if_pos z3]; exact hQ2)
    rw [if_neg (show ¬ FX5_within q 0 1000000 = 0 from z3)]
    have ff := z_full hr hj
    by_cases z4 : (I j).2.2.2.1 < 24
    · rw [if_pos z4]
      intro h1 hK1 hF1
      refine hQ _ h1 (zR6.of hs hK1 hF1 fun hM1 Q2 hQ2 => kX6_point (d := 8) hM1 hA rd.1.2 rd.1.1 (z_ptin hr) ?_)
      rw [if_neg z, if_neg z1, if_neg z2, if_neg z3, if_neg (ff.mp z4)]
      intro h2 hM2 hF2
      have y1 := in_iff.mp z1
      have y2 := in_iff.mp z2
      have y3 := in_iff.mp z3
      have m6 : (-1000000 : Int32).toInt = -1000000 := rfl
      have p6 : (1000000 : Int32).toInt = 1000000 := rfl
      rw [fa_lt, fa_lt, m6, p6] at y1 y2
      rw [fa_lt, fa_lt, zi0, p6] at y3
      have ez : (I j).2.2.2.1 = X 11 j := (hr.2.2.2.2.1 j hj).1.2.2.2
      have ev : upd (X 11) (Int32.toNatClampNeg (nI j)) (X 11 (Int32.toNatClampNeg (nI j)) + 1) (Int32.toNatClampNeg (nI j)) - 1 = (I j).2.2.2.1 + 1 - 1 := by rw [pk_us, nI_clamp (by omega), ez]
      rw [ev]
      exact hQ2 h2 _ _ cn rn Ln hM2 hF2 (z_add hz hj z4 (by omega) (by omega) (by omega))
    · rw [if_neg z4]
      exact bad _ fun Q2 hQ2 => kX6_point (d := 8) hs.2.1 hA rd.1.2 rd.1.1 (z_ptin hr) (by rw [if_neg z, if_neg z1, if_neg z2, if_neg z3, if_pos (Classical.byContradiction fun t => z4 (ff.mpr t))]; exact hQ2)
theorem zc_gap {s : Int32} (hi : zInv G sc sm h) (hQ : ∀ (i : Int32) (h1 : xH), zR6 G l mX6_gap [.ref sm, .int s] sc sm (.int i) h1 → Q (some (.int i)) h1) : xV G l mX5_gap 10 0 0 0 0 0 [.ref sc, .int s, xU] [] h Q := by
  obtain ⟨pg, sx, sy, al, ed, C, B, p, n, U, md, N, I, V, A, J, X, cn, rn, Ln, rfl, hs⟩ := hi
  have hz := hs.2.2.2.2.2.1
  have hr := hz.1
  have rd := hs.rdy
  have hc := hz.cls
  have h6 := hr.2.1
  have hA : ∀ {i j : Nat}, i ≠ j → A i ≠ A j := fun {i j} e => hs.2.2.2.1 i j e
  have bad : ∀ (v : Int32) (f : ∀ Q2 : Option Value → xH → Prop, Q2 (some (.int v)) h → xV G l mX6_gap 10 0 0 0 0 0 [.ref (A 0), .int s] [] h Q2), Q (some (.int v)) h := fun v f => hQ _ h (zR6.same hs f)
  rcases z_isSer hr s with ⟨z, hn⟩ | ⟨z, j, hj, rfl⟩
  · exact kX5_gapN (d := 6) hs.1 hn (bad _ fun Q2 hQ2 => kX6_gap (d := 8) hs.2.1 hA rd.1.2 rd.1.1 (z_ptin hr) (by rw [if_pos z]; exact hQ2))
  · refine kX5_gapJ (d := 6) hs.1 hs.2.2.1 hj hc.2.2.2.2.2 ?_
    have ff := z_full hr hj
    by_cases z4 : (I j).2.2.2.1 < 24
    · rw [if_pos z4]
      intro h1 hK1 hF1
      refine hQ _ h1 (zR6.of hs hK1 hF1 fun hM1 Q2 hQ2 => kX6_gap (d := 8) hM1 hA rd.1.2 rd.1.1 (z_ptin hr) ?_)
      rw [if_neg z, if_neg (ff.mp z4)]
      intro h2 hM2 hF2
      have ez : (I j).2.2.2.1 = X 11 j := (hr.2.2.2.2.1 j hj).1.2.2.2
      have ev : upd (X 11) (Int32.toNatClampNeg (nI j)) (X 11 (Int32.toNatClampNeg (nI j)) + 1) (Int32.toNatClampNeg (nI j)) - 1 = (I j).2.2.2.1 + 1 - 1 := by rw [pk_us, nI_clamp (by omega), ez]
      rw [ev]
      exact hQ2 h2 _ _ cn rn Ln hM2 hF2 (z_add hz hj z4 (by decide) (by decide) (by decide))
    · rw [if_neg z4]
      exact bad _ fun Q2 hQ2 => kX6_gap (d := 8) hs.2.1 hA rd.1.2 rd.1.1 (z_ptin hr) (by rw [if_neg z, if_pos (Classical.byContradiction fun t => z4 (ff.mpr t))]; exact hQ2)
theorem zc_drop {s : Int32} (hi : zInv G sc sm h) (hQ : ∀ (i : Int32) (h1 : xH), zR6 G l mX6_drop [.ref sm, .int s, xU] sc sm (.int i) h1 → Q (some (.int i)) h1) : xV G l mX5_drop 10 0 0 0 0 0 [.ref sc, .int s, xU] [] h Q := by
  obtain ⟨pg, sx, sy, al, ed, C, B, p, n, U, md, N, I, V, A, J, X, cn, rn, Ln, rfl, hs⟩ := hi
  have hz := hs.2.2.2.2.2.1
  have hr := hz.1
  have rd := hs.rdy
  have h6 := hr.2.1
  have hA : ∀ {i j : Nat}, i ≠ j → A i ≠ A j := fun {i j} e => hs.2.2.2.1 i j e
  have eL : (J.2.2.2.1).toNatClampNeg = Ln := by rw [h6.2.2.1, nI_clamp (by omega)]
  have hlb : J.2.2.2.1 = nI (J.2.2.2.1).toNatClampNeg := by rw [eL]; exact h6.2.2.1
  have hl20 : (J.2.2.2.1).toNatClampNeg ≤ 20 := by rw [eL]; omega
  have bad : ∀ (v : Int32) (f : ∀ Q2 : Option Value → xH → Prop, Q2 (some (.int v)) h → xV G l mX6_drop 10 0 0 0 0 0 [.ref (A 0), .int s, xU] [] h Q2), Q (some (.int v)) h := fun v f => hQ _ h (zR6.same hs f)
  rcases z_isSer hr s with ⟨z, hn⟩ | ⟨z, j, hj, rfl⟩
  · exact kX5_dropN (d := 6) hs.1 hn (bad _ fun Q2 hQ2 => kX6_drop (d := 8) hs.2.1 hA rd.1.2 rd.1.1 hlb hl20 (by rw [if_pos z]; exact hQ2))
  · have hK0 := hs.1
    rw [h6.1] at hK0
    have sz := hr.sz hj
    have ez : (I j).2.2.2.1 = X 11 j := (hr.2.2.2.2.1 j hj).1.2.2.2
    have ej : (nI j).toNatClampNeg = j := nI_clamp (by omega)
    have nz : 0 < (I j).2.2.2.1 ↔ ¬ X 11 (Int32.toNatClampNeg (nI j)) = 0 := by rw [ej, ez, fa_lt, fa_eq, zi0]; omega
    refine kX5_dropJ (d := 6) hK0 hs.2.2.1 hj (by omega) ?_
    by_cases z1 : 0 < (I j).2.2.2.1
    · rw [if_pos z1]
      intro h1 hK1 hF1
      have z1' := z1
      rw [ez, fa_lt, zi0] at z1'
      generalize hm : (X 11 j).toNatClampNeg = m at sz
      have em : X 11 j = nI m := sz.2.1
      have m0 : 1 ≤ m := by omega
      have e1 : X 11 j - 1 = nI (m - 1) := by rw [em]; exact pk_sub (a := m) (b := 1) m0
      have er : (rmI (I j)).2.2.2.1 = nI (m - 1) := by
        show (if 0 < (I j).2.2.2.1 - 1 then (I j).2.2.2.1 - 1 else 0) = nI (m - 1)
        rw [ez, e1]
        by_cases q : 0 < nI (m - 1)
        · rw [if_pos q]
        · rw [if_neg q]
          rw [fa_lt, zi0, nI_toInt (by omega)] at q
          rw [show m - 1 = 0 by omega]; rfl
      rw [er] at hK1 ⊢
      refine hQ _ h1 (zR6.of hs hK1 hF1 fun hM1 Q2 hQ2 => kX6_drop (d := 8) hM1 hA rd.1.2 rd.1.1 hlb hl20 ?_)
      rw [if_neg z, if_neg (nz.mp z1)]
      intro h2 hM2 hF2
      rw [ej, e1]
      have eD : FX6_drp J X (nI j) = LX6_drp (nI j) (nI (m - 1)) Ln (Ln, va_up X 11 (upd (X 11) j (nI (m - 1)))) := by
        unfold FX6_drp
        rw [ej, eL, e1]
      rw [eD] at hM2
      have dl := z_drp hr (nI j) (nI (m - 1)) (Y := va_up X 11 (upd (X 11) j (nI (m - 1)))) (fun k k1 k2 => va_up_ne _ _ (by omega))
      have lo := fun k hk => drp_lo (nI j) (nI (m - 1)) Ln (Ln, va_up X 11 (upd (X 11) j (nI (m - 1)))) k hk
      generalize LX6_drp (nI j) (nI (m - 1)) Ln (Ln, va_up X 11 (upd (X 11) j (nI (m - 1)))) = D at hM2 dl lo
      have lo1 : ∀ k, ¬ (17 ≤ k ∧ k ≤ 21) → k ≠ 11 → D.2 k = X k := fun k k1 k2 => (lo k k1).trans (va_up_ne _ _ k2)
      have lo11 : D.2 11 = upd (X 11) j (nI (m - 1)) := (lo 11 (by decide)).trans (va_up_self X 11 (upd (X 11) j (nI (m - 1))))
      rw [dl.1] at hM2
      refine hQ2 h2 _ _ cn rn (LX0_rm (nI j) (nI (m - 1)) Ln 0 0 U).1 hM2 hF2 ⟨?_, ?_, z_undrawn⟩
      · obtain ⟨d9, n9, ⟨o1, o2, a1, a2⟩, b9, sr9, lb9⟩ := hr
        refine ⟨d9, ⟨rfl, n9.2.1, rfl, n9.2.2.2.1, by omega⟩, ⟨o1, o2, a1.cong rfl rfl (fun k hk => (lo1 k (by omega) (by omega)).symm), a2.cong rfl rfl (fun k hk => (lo1 k (by omega) (by omega)).symm)⟩, fun k hk => ?_, fun k hk => ?_, dl.2.2⟩
        · rw [lo1 9 (by decide) (by decide), lo11]
          refine ⟨(b9 k hk).1, ?_⟩
          by_cases e : k = j
          · rw [e, pk_us, nI_toInt (by omega)]; omega
          · rw [pk_un e]; exact (b9 k hk).2
        · have s9 := sr9 k hk
          unfold zSr
          rw [lo1 8 (by decide) (by decide), lo1 9 (by decide) (by decide), lo1 10 (by decide) (by decide), lo11, lo1 12 (by decide) (by decide), lo1 13 (by decide) (by decide), lo1 14 (by decide) (by decide), lo1 15 (by decide) (by decide)]
          by_cases e : k = j
          · subst e
            rw [va_up_self, pk_us]
            refine ⟨⟨s9.1.1, s9.1.2.1, s9.1.2.2.1, er⟩, s9.2.1, s9.2.2.1, fun i hi => s9.2.2.2 i ?_⟩
            rw [nI_clamp (by omega)] at hi
            rw [em, nI_clamp (by omega)]
            omega
          · rw [va_up_ne _ _ e, pk_un e]
            exact s9
      · have := z_frj (j := j) (A := rmI (I j)) (W := V j) hz.2.1 (fun q => absurd q (by show ¬ (1 : Int32) = 0; decide))
        rw [xups] at this
        exact this
    · rw [if_neg z1]
      exact bad _ fun Q2 hQ2 => kX6_drop (d := 8) hs.2.1 hA rd.1.2 rd.1.1 hlb hl20 (by rw [if_neg z, if_pos (Classical.byContradiction fun t => z1 (nz.mpr t))]; exact hQ2)
end ZY
