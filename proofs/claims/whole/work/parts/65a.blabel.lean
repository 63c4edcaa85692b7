/-! BOTH: label -/
section ZE
variable {cn rn Ln : Nat} {p : xPv} {n : Int32} {U : Nat → Nat → Int32} {N : Nat} {I : Nat → xSi} {V : Nat → Nat → Nat → Int32} {J : xMi} {X : Nat → Nat → Int32}
theorem z_lab (hz : zRel cn rn Ln p n U N I V J X) (hl : Ln < 20) {a b q s t : Int32} (ha : 0 ≤ a.toInt ∧ a.toInt ≤ 100) (hq : 0 ≤ q.toInt ∧ q.toInt ≤ 100) : zRel cn rn (Ln + 1) p (n + 1) (lbAd U n a b q s t) N I V (mlA J) (mlAd X J.2.2.2.1 a b q s t) := by
  have hr := hz.1
  have h6 := hr.2.1
  have en : Int32.toNatClampNeg n = Ln := by rw [h6.1, nI_clamp (by omega)]
  have eJ : Int32.toNatClampNeg J.2.2.2.1 = Ln := by rw [h6.2.2.1, nI_clamp (by omega)]
  have lo : ∀ k, ¬ (17 ≤ k ∧ k ≤ 21) → mlAd X J.2.2.2.1 a b q s t k = X k := fun k hk => by
    unfold mlAd
    rw [va_up_ne _ _ (by omega), va_up_ne _ _ (by omega), va_up_ne _ _ (by omega), va_up_ne _ _ (by omega), va_up_ne _ _ (by omega)]
  obtain ⟨d9, n9, ⟨o1, o2, a1, a2⟩, b9, sr9, lb9⟩ := hr
  refine ⟨⟨d9, ⟨by rw [h6.1, nI_1], n9.2.1, ?_, n9.2.2.2.1, by omega⟩, ⟨o1, o2, a1.cong rfl rfl (fun k hk => (lo k (by omega)).symm), a2.cong rfl rfl (fun k hk => (lo k (by omega)).symm)⟩, ?_, fun k hk => (sr9 k hk).cong rfl rfl rfl rfl (fun _ _ => rfl) (fun j hj hj2 => lo j (by omega)), fun i hi => ?_⟩, hz.2.1, fun z => ?_⟩
  · show J.2.2.2.1 + 1 = nI (Ln + 1)
    rw [h6.2.2.1, nI_1]
  · rw [lo 9 (by decide), lo 11 (by decide)]; exact b9
  · show (upd (U 1) (Int32.toNatClampNeg n) a i = upd (X 17) (Int32.toNatClampNeg J.2.2.2.1) a i ∧ upd (U 2) (Int32.toNatClampNeg n) b i = upd (X 18) (Int32.toNatClampNeg J.2.2.2.1) b i ∧ upd (U 3) (Int32.toNatClampNeg n) q i = upd (X 19) (Int32.toNatClampNeg J.2.2.2.1) q i ∧ upd (U 4) (Int32.toNatClampNeg n) s i = upd (X 20) (Int32.toNatClampNeg J.2.2.2.1) s i ∧ upd (U 5) (Int32.toNatClampNeg n) t i = upd (X 21) (Int32.toNatClampNeg J.2.2.2.1) t i) ∧ (0 ≤ (upd (U 1) (Int32.toNatClampNeg n) a i).toInt ∧ (upd (U 1) (Int32.toNatClampNeg n) a i).toInt ≤ 100) ∧ (0 ≤ (upd (U 3) (Int32.toNatClampNeg n) q i).toInt ∧ (upd (U 3) (Int32.toNatClampNeg n) q i).toInt ≤ 100)
    rw [en, eJ]
    by_cases e : i = Ln
    · subst e
      simp only [pk_us]
      refine ⟨?_, ha, hq⟩
      simp
    · rw [pk_un e, pk_un e, pk_un e, pk_un e, pk_un e, pk_un e, pk_un e, pk_un e, pk_un e, pk_un e]
      exact lb9 i (by omega)
  · have d := hz.2.2 z
    refine ⟨d.1, ?_⟩
    rw [draws_cong (J := mlA J) (J' := J) (X' := X) rfl rfl rfl (fun k hk => lo k (by omega)), lo 23 (by decide), lo 24 (by decide)]
    exact d.2
theorem labW_free {cl rw : Int32} {w : Nat} : ∀ (n9 k k' : Nat), labW p n U N I V cl rw w n9 k = some k' → k' < k + n9 ∧ ¬ FX5_isFree p n U N I V (FX5_firstColumn (nI k') cl (nI w)) (FX5_labelRow (nI k') rw) w = 0 := by
  intro n9
  induction n9 with
  | zero => intro k k' e; rw [labW] at e; cases e
  | succ n9 ih =>
    intro k k' e
    rw [labW] at e
    by_cases z : FX5_isFree p n U N I V (FX5_firstColumn (nI k) cl (nI w)) (FX5_labelRow (nI k) rw) w = 0
    · rw [if_pos z] at e
      have := ih (k + 1) k' e
      exact ⟨by omega, this.2⟩
    · rw [if_neg z] at e
      cases e
      exact ⟨by omega, z⟩
theorem free_has {x y : Int32} {w : Nat} (h : ¬ FX5_isFree p n U N I V x y w = 0) : ¬ FX1_has p x y = 0 := fun z => by
  unfold FX5_isFree at h
  rw [if_pos z] at h
  exact h rfl
end ZE
section ZZ
variable {G : xG} {l : Launch} {sc sm : Nat} {h : xH} {Q : Option Value → xH → Prop}
theorem zc_label {s q ln : Int32} (hi : zInv G sc sm h) (hQ : ∀ (i : Int32) (h1 : xH), zR6 G l mX6_label [.ref sm, .int s, .int q, .int ln, xU, xU, xU, xU, xU] sc sm (.int i) h1 → Q (some (.int i)) h1) : xV G l mX5_label 10 0 0 0 0 0 [.ref sc, .int s, .int q, .int ln, xU, xU, xU, xU, xU, xU] [] h Q := by
  obtain ⟨pg, sx, sy, al, ed, C, B, p, n, U, md, N, I, V, A, J, X, cn, rn, Ln, rfl, hs⟩ := hi
  have hz := hs.2.2.2.2.2.1
  have hr := hz.1
  have rd := hs.rdy
  have hc := hz.cls
  have h6 := hr.2.1
  have d := hr.1
  have dd := d.2
  have hA : ∀ {i j : Nat}, i ≠ j → A i ≠ A j := fun {i j} e => hs.2.2.2.1 i j e
  have bad : (FX6_isPoint J X s q = 0 ∨ FX6_in ln 1 10 = 0) → Q (some (.int (-1))) h := fun hb => hQ _ h (zR6.same hs fun Q2 hQ2 => kX6_labelB (d := 2) hs.2.1 rd.1.2 rd.1.1 hb hQ2)
  rcases z_isSer hr s with ⟨z, hn⟩ | ⟨z, j, hj, rfl⟩
  · exact kX5_labelN (d := 6) hs.1 hn (bad (Or.inl (by unfold FX6_isPoint; rw [if_pos z])))
  · by_cases zl : FX6_in ln 1 10 = 0
    · exact kX5_labelB (d := 6) hs.1 hj zl (bad (Or.inr zl))
    · obtain ⟨w, w1, w2, rfl⟩ := z_side (m := 10) (by decide) zl
      refine kX5_labelJ (d := 3) hs.1 hs.2.2.1 hc.1 hc.2.1 hc.2.2.1 rfl rfl hc.2.2.2.1 hj hc.2.2.2.2.1 d.1.1 d.1.2.1 (by omega) (by omega) (by omega) ?_
      rcases z_isPt hr hj q with ⟨p1, p2⟩ | ⟨p1, p2, i, hi, rfl⟩
      · rw [if_pos p1]
        exact bad (Or.inl p2)
      · have sz := hr.sz hj
        have hp : ¬ FX6_isPoint J X (nI j) (nI i) = 0 := by rw [p2]; decide
        rw [if_neg (by rw [p1]; decide), if_neg (show ¬ FX5_within (nI w) 1 10 = 0 from zl), z_seen hr hj hi]
        have hd := hz.drawn
        have hi9 : i < ((drV J X) 11 j).toNatClampNeg := hi
        have ax := (z_across hd.1.1 hj hi9).1
        have up := (z_upw hd.1.1 hj hi9).1
        have sn := z_seen hd.1.1 hj hi9
        have eC : FX1_columnOf p (FX3_dotAcross p (st0 (I j)) (fV p (I j) (V j)) (nI i)) = FX6_across (mdI J) (drV J X) (nI j) (nI i) / 2 := by unfold FX1_columnOf; rw [ax]
        have eR : FX1_rowOf p (FX3_dotUpwards p (st0 (I j)) (fV p (I j) (V j)) (nI i)) = ((J.2.1 - 1) - FX6_upwards (mdI J) (drV J X) (nI j) (nI i) / 4) := by unfold FX1_rowOf; rw [up, d.1.2.1, d.1.2.2.2]
        have e20 : n < 20 ↔ ¬ J.2.2.2.1 = 20 := by
          have e : (20 : Int32).toInt = 20 := rfl
          rw [h6.1, h6.2.2.1, fa_lt, fa_eq, nI_toInt (by omega), e]; omega
        by_cases zs : FX6_isSeen J X (nI j) (nI i) = 0
        · rw [if_pos zs]
          refine hQ _ h (zR6.same hs fun Q2 hQ2 => ?_)
          have hcl : -100 ≤ (FX6_across (mdI J) (drV J X) (nI j) (nI i) / 2).toInt ∧ (FX6_across (mdI J) (drV J X) (nI j) (nI i) / 2).toInt ≤ 100 := by
            rw [← ax, (z_across hd.1.1 hj hi9).2]
            have dn := z_dn hd.1.1
            rcases z_plB (v := fV p (I j) (V j) 1 i) hr.2.2.1.1 with e | e
            · rw [e]; decide
            · rw [zdivn e.1 (by decide), zi2]; omega
          refine kX6_label (d := 2) hs.2.1 hA rd hp zl w2 hcl ?_
          rw [if_pos zs]; exact hQ2
        · rw [if_neg zs]
          have pt := z_pt hd.1.1 hj hi9 (by rw [sn]; exact zs)
          rw [ax] at pt
          have hcl : -100 ≤ (FX6_across (mdI J) (drV J X) (nI j) (nI i) / 2).toInt ∧ (FX6_across (mdI J) (drV J X) (nI j) (nI i) / 2).toInt ≤ 100 := by
            obtain ⟨t1, t2, -, -⟩ := pt
            rw [zdivn t1 (by decide), zi2]; omega
          by_cases zn : n < 20
          · rw [if_pos zn]
            show (labW p n U N (fun k => st0 (I k)) (fun k => fV p (I k) (V k)) (FX1_columnOf p (FX3_dotAcross p (st0 (I j)) (fV p (I j) (V j)) (nI i))) (FX1_rowOf p (FX3_dotUpwards p (st0 (I j)) (fV p (I j) (V j)) (nI i))) w 4 0 = none → _) ∧ ∀ k, labW p n U N (fun k => st0 (I k)) (fun k => fV p (I k) (V k)) (FX1_columnOf p (FX3_dotAcross p (st0 (I j)) (fV p (I j) (V j)) (nI i))) (FX1_rowOf p (FX3_dotUpwards p (st0 (I j)) (fV p (I j) (V j)) (nI i))) w 4 0 = some k → ∀ h', xCls G sc pg sx sy al ed C B p (n + 1) (lbAd U n (FX5_firstColumn (nI k) (FX1_columnOf p (FX3_dotAcross p (st0 (I j)) (fV p (I j) (V j)) (nI i))) (nI w)) (FX5_labelRow (nI k) (FX1_rowOf p (FX3_dotUpwards p (st0 (I j)) (fV p (I j) (V j)) (nI i)))) (nI w) (nI j) (nI i)) md N (fun k => st0 (I k)) (fun k => fV p (I k) (V k)) h' → _
            rw [eC, eR]
            have eW := fun rw9 => z_labW hd.1.1 hd.2 (cl := FX6_across (mdI J) (drV J X) (nI j) (nI i) / 2) (rw := rw9) (w := w) hcl w1 w2 4 0 rfl
            refine ⟨fun en h1 hK1 hF1 => hQ _ h1 (zR6.of hs hK1 hF1.K fun hM1 Q2 hQ2 => kX6_label (d := 2) hM1 hA rd hp zl w2 hcl ?_), fun k ek h1 hK1 hF1 => hQ _ h1 (zR6.of hs hK1 hF1 fun hM1 Q2 hQ2 => kX6_label (d := 2) hM1 hA rd hp zl w2 hcl ?_)⟩
            · rw [if_neg zs, if_neg (e20.mp zn)]
              rw [eW] at en
              refine ⟨fun _ h2 hM2 hF2 => hQ2 h2 _ _ cn rn Ln hM2 hF2 hd.1, fun k ek => ?_⟩
              rw [en] at ek; cases ek
            · rw [if_neg zs, if_neg (e20.mp zn)]
              have fr := labW_free 4 0 k ek
              rw [eW] at ek
              refine ⟨fun en => ?_, fun k' ek' h2 hM2 hF2 => ?_⟩
              · rw [en] at ek; cases ek
              · rw [ek'] at ek
                cases ek
                have zw := z_way k (by omega) (FX6_across (mdI J) (drV J X) (nI j) (nI i) / 2) ((J.2.1 - 1) - FX6_upwards (mdI J) (drV J X) (nI j) (nI i) / 4) (nI w)
                rw [zw.1, zw.2] at hQ2
                rw [zw.1] at fr
                have hx := (z_hasX hr).mp (free_has fr.2)
                have ew : (nI w).toInt = (w : Int) := nI_toInt (by omega)
                have l20 : Ln < 20 := by
                  have e : (20 : Int32).toInt = 20 := rfl
                  rw [h6.1, fa_lt, nI_toInt (by omega), e] at zn; omega
                exact hQ2 h2 _ _ cn rn (Ln + 1) hM2 hF2 (z_lab hd.1 l20 (by omega) (by omega))
          · rw [if_neg zn]
            refine hQ _ h (zR6.same hs fun Q2 hQ2 => kX6_label (d := 2) hs.2.1 hA rd hp zl w2 hcl ?_)
            rw [if_neg zs, if_pos (Classical.byContradiction fun t => zn (e20.mpr t))]; exact hQ2
end ZZ
