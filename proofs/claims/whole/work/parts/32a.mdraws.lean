def mdI (I : xMi) : xMi := (I.1, I.2.1, I.2.2.1, I.2.2.2.1, 1)
def LX6_pts (I : xMi) (V : Nat → Nat → Int32) (s : Nat) : Nat → Nat → xR2 → xR2
  | 0, _, r => r
  | n9 + 1, i, r => LX6_pts I V s n9 (i + 1) (if FX6_isSeen I V (nI s) (nI i) = 0 then r else FX6_drawsPoint I V r (nI s) (nI i))
def LX6_sers (I : xMi) (V : Nat → Nat → Int32) : Nat → Nat → xR2 → xR2
  | 0, _, r => r
  | n9 + 1, s, r => LX6_sers I V n9 (s + 1) (LX6_pts I V s (V 11 s).toNatClampNeg 0 r)
/-- what the reference draws -/
def FX6_draws (I : xMi) (V : Nat → Nat → Int32) : xR2 := LX6_sers (mdI I) V (I.2.2.1).toNatClampNeg 0 xR0
section VRM
variable {I : xMi} {V : Nat → Nat → Int32} {r r9 : xR2} {s q ax : Int32}
theorem span_vrM : FX6_span I (vrM V r) ax = FX6_span I V ax := rfl
theorem seen_vrM : FX6_isSeen I (vrM V r) s q = FX6_isSeen I V s q := rfl
theorem px_vrM : mPx I (vrM V r) s q = mPx I V s q := rfl
theorem py_vrM : mPy I (vrM V r) s q = mPy I V s q := rfl
theorem acr_vrM : FX6_across I (vrM V r) s q = FX6_across I V s q := rfl
theorem upw_vrM : FX6_upwards I (vrM V r) s q = FX6_upwards I V s q := rfl
theorem bx_vrM : mBx I (vrM V r) s q = mBx I V s q := by unfold mBx; rw [seen_vrM, px_vrM, acr_vrM]
theorem by_vrM : mBy I (vrM V r) s q = mBy I V s q := by unfold mBy; rw [seen_vrM, py_vrM, upw_vrM]
theorem e1_vrM : mE1 I (vrM V r) s q = mE1 I V s q := rfl
theorem e2_vrM : mE2 I (vrM V r) s q = mE2 I V s q := rfl
theorem mdrOk_vrM : mdrOk I (vrM V r) s q = mdrOk I V s q := by unfold mdrOk; rw [px_vrM, py_vrM, bx_vrM, by_vrM, e1_vrM, e2_vrM]
theorem mdr_vrM : FX6_drawsPoint I (vrM V r) r9 s q = FX6_drawsPoint I V r9 s q := by
  unfold FX6_drawsPoint
  rw [px_vrM, py_vrM, bx_vrM, by_vrM, e1_vrM, e2_vrM, show vrM V r 8 = V 8 from rfl, show vrM V r 10 = V 10 from rfl]
end VRM
theorem mp_in {j i : Nat} (hj : j < 6) (hi : i < 24) : vp_in ((24 * nI j) + nI i) 144 := by
  rw [show (24 : Int32) = nI 24 from rfl, pk_mul, nI_add]
  exact vp_in_nI (by omega) (by decide)
theorem mp_in1 {j i : Nat} (hj : j < 6) (hi : i < 24) (h : ¬ (nI i - 1) < 0) : vp_in ((24 * nI j) + (nI i - 1)) 144 := by
  cases i with
  | zero => exact absurd (by decide) h
  | succ i => rw [nI_pred]; exact mp_in hj (by omega)
set_option maxHeartbeats 4000000 in
set_option maxRecDepth 100000 in
theorem kX6_draws {G : xG} {l : Launch} {d : Nat} {h : xH} {Q : Option Value → xH → Prop} {A : Nat → Nat} {I : xMi} {V : Nat → Nat → Int32} (hM : xMod G A I V h) (hA : ∀ {i j : Nat}, i ≠ j → A i ≠ A j) (h6 : I.2.2.1.toInt ≤ 6) (hdv : ∀ ax, vp_in ax 2 → ¬ (2 : Int64) * FX6_span I V ax = 0) (hpt : ∀ j, j < 6 → (V 11 j).toNatClampNeg ≤ 24) (hok : ∀ j, j < (I.2.2.1).toNatClampNeg → ∀ i, i < (V 11 j).toNatClampNeg → ¬ FX6_isSeen (mdI I) V (nI j) (nI i) = 0 → mdrOk (mdI I) V (nI j) (nI i)) (hQ0 : ¬ I.2.2.2.2 = 0 → Q none h) (hQ1 : I.2.2.2.2 = 0 → (∀ h', xMod G A (mdI I) (vrM V (FX6_draws I V)) h' → xfM A h h' → Q none h')) : xV G l mX6_draws (d + 7) 0 0 0 0 0 [.ref (A 0), xU, xU] [] h Q := by
  have hm6 : (I.2.2.1).toNatClampNeg ≤ 6 := by unfold Int32.toNatClampNeg; omega
  have e11 : ∀ (r9 : xR2) (j : Nat), j < 6 → vrM V r9 11 (Int32.toNatClampNeg (nI j)) = V 11 j := fun r9 j hj => by rw [nI_clamp (by omega)]; rfl
  have inner : ∀ (j : Nat), j < (I.2.2.1).toNatClampNeg → ∀ (n9 i : Nat) (r9 : xR2) (h1 : xH), i + n9 = (V 11 j).toNatClampNeg → xMod G A (mdI I) (vrM V r9) h1 → xfM A h h1 → (∀ h2, xMod G A (mdI I) (vrM V (LX6_pts (mdI I) V j n9 i r9)) h2 → xfM A h h2 → xV G l mX6_draws (d + 7) 0 0 0 0 85 [.ref (A 0), .int (nI j), xU] [] h2 Q) → xV G l mX6_draws (d + 7) 0 0 0 0 54 [.ref (A 0), .int (nI j), .int (nI i)] [] h1 Q := by
    intro j hj n9
    have hp24 := hpt j (by omega)
    clear hM
    induction n9 with
    | zero =>
      intro i r9 h1 hi hM hF hk
      refine x_iload_n dX6_draws_54 rfl ?_
      refine x_aload_n dX6_draws_55 rfl ?_
      refine x_get 11 dX6_draws_56 hM.1 rfl (by decide) (by decide +kernel) rfl ?_
      refine x_iload_n dX6_draws_59 rfl ?_
      refine x_iald dX6_draws_60 (hM.r 11 (by decide) (by decide)) (ml_in h6 (by omega)) ?_
      refine x_icmp_ge (tgt := 85) dX6_draws_61 (by decide) (fun _ => ?_) (fun z9 => absurd (by rw [e11 r9 j (by omega)]; exact xge_b (by omega) (by omega)) z9)
      rw [LX6_pts] at hk
      refine xV.sub (L' := [.ref (A 0), .int (nI j), xU]) ⟨Or.inr rfl, Or.inr rfl, Or.inl rfl, trivial⟩ (hk h1 hM hF)
    | succ n9 ih =>
      intro i r9 h1 hi hM hF hk
      refine x_iload_n dX6_draws_54 rfl ?_
      refine x_aload_n dX6_draws_55 rfl ?_
      refine x_get 11 dX6_draws_56 hM.1 rfl (by decide) (by decide +kernel) rfl ?_
      refine x_iload_n dX6_draws_59 rfl ?_
      refine x_iald dX6_draws_60 (hM.r 11 (by decide) (by decide)) (ml_in h6 (by omega)) ?_
      refine x_icmp_ge (tgt := 85) dX6_draws_61 (by decide) (fun z9 => absurd z9 (by rw [e11 r9 j (by omega)]; exact xlt_b (by omega))) (fun _ => ?_)
      refine x_aload_n dX6_draws_64 rfl ?_
      refine x_iload_n dX6_draws_65 rfl ?_
      refine x_iload_n dX6_draws_66 rfl ?_
      refine x_callV (M' := mX6_isSeen) (mc' := 0) (ms' := 0) (As := [.int (nI j), .int (nI i)]) dX6_draws_67 gX6_draws_X6_isSeen okX6_isSeen rfl rfl hM.1 rfl (Nat.le_of_ble_eq_true rfl) (Nat.le_of_ble_eq_true rfl) (Nat.le_refl _) (Nat.le_refl _) (Nat.le_refl _) ?_
      refine kX6_isSeen hM hdv (fun _ => mp_in (by omega) (by omega)) ?_
      show xV _ _ _ _ _ _ _ _ _ _ _ _ _
      refine x_if_eq (tgt := 79) dX6_draws_70 (by decide) (fun hc_70 => ?_) (fun hc_70 => ?_)
      · refine x_iinc (v := 1) dX6_draws_79 rfl (by decide) (by decide) rfl ?_
        refine x_goto (tgt := 54) dX6_draws_82 (by decide) ?_
        refine xV.sub (L' := [.ref (A 0), .int (nI j), .int (nI (i + 1))]) ⟨Or.inr rfl, Or.inr rfl, Or.inr (congrArg Value.int (nI_1 i)), trivial⟩ (ih (i + 1) r9 h1 (by omega) hM hF (by rw [LX6_pts, if_pos (id hc_70 : FX6_isSeen (mdI I) V (nI j) (nI i) = 0)] at hk; exact hk))
      · refine x_aload_n dX6_draws_73 rfl ?_
        refine x_iload_n dX6_draws_74 rfl ?_
        refine x_iload_n dX6_draws_75 rfl ?_
        refine x_callV (M' := mX6_drawsPoint) (mc' := 0) (ms' := 0) (As := [.int (nI j), .int (nI i)]) dX6_draws_76 gX6_draws_X6_drawsPoint okX6_drawsPoint rfl rfl hM.1 rfl (Nat.le_of_ble_eq_true rfl) (Nat.le_of_ble_eq_true rfl) (Nat.le_refl _) (Nat.le_refl _) (Nat.le_refl _) ?_
        refine kX6_drawsPoint hM hA hdv (ml_in h6 (by omega)) (mp_in (by omega) (by omega)) (mp_in1 (by omega) (by omega)) (by rw [mdrOk_vrM]; exact hok j (by omega) i (by omega) hc_70) (fun h9 hM9 hF9 => ?_)
        rw [mdr_vrM] at hM9
        show xV _ _ _ _ _ _ _ _ _ _ _ _ _
        refine x_iinc (v := 1) dX6_draws_79 rfl (by decide) (by decide) rfl ?_
        refine x_goto (tgt := 54) dX6_draws_82 (by decide) ?_
        refine xV.sub (L' := [.ref (A 0), .int (nI j), .int (nI (i + 1))]) ⟨Or.inr rfl, Or.inr rfl, Or.inr (congrArg Value.int (nI_1 i)), trivial⟩ (ih (i + 1) _ h9 (by omega) hM9 (hF.tr hF9) (by rw [LX6_pts, if_neg (id hc_70 : ¬ FX6_isSeen (mdI I) V (nI j) (nI i) = 0)] at hk; exact hk))
  have outer : (∀ h', xMod G A (mdI I) (vrM V (FX6_draws I V)) h' → xfM A h h' → Q none h') → ∀ (n9 j : Nat) (r9 : xR2) (h1 : xH), j + n9 = (I.2.2.1).toNatClampNeg → LX6_sers (mdI I) V n9 j r9 = FX6_draws I V → xMod G A (mdI I) (vrM V r9) h1 → xfM A h h1 → xV G l mX6_draws (d + 7) 0 0 0 0 44 [.ref (A 0), .int (nI j), xU] [] h1 Q := by
    intro hQ n9
    clear hM
    induction n9 with
    | zero =>
      intro j r9 h1 hj hf hM hF
      refine x_iload_n dX6_draws_44 rfl ?_
      refine x_aload_n dX6_draws_45 rfl ?_
      refine x_get 7 dX6_draws_46 hM.1 rfl (by decide) (by decide +kernel) rfl ?_
      refine x_icmp_ge (tgt := 91) dX6_draws_49 (by decide) (fun _ => ?_) (fun z9 => absurd (xge_b (by simp only [mdI]; omega) (by omega)) z9)
      rw [LX6_sers] at hf
      exact x_vret dX6_draws_91 rfl (hQ h1 (hf ▸ hM) hF)
    | succ n9 ih =>
      intro j r9 h1 hj hf hM hF
      refine x_iload_n dX6_draws_44 rfl ?_
      refine x_aload_n dX6_draws_45 rfl ?_
      refine x_get 7 dX6_draws_46 hM.1 rfl (by decide) (by decide +kernel) rfl ?_
      refine x_icmp_ge (tgt := 91) dX6_draws_49 (by decide) (fun z9 => absurd z9 (xlt_b (by simp only [mdI]; omega))) (fun _ => ?_)
      refine x_iconst (v := 0) dX6_draws_52 (by decide) ?_
      refine x_istore_n dX6_draws_53 (by decide) rfl ?_
      refine xV.sub (L' := [.ref (A 0), .int (nI j), .int (nI 0)]) ⟨Or.inr rfl, Or.inr rfl, Or.inr (congrArg Value.int nI_0.symm), trivial⟩ (inner j (by omega) (V 11 j).toNatClampNeg 0 r9 h1 (by omega) hM hF (fun h2 hM2 hF2 => ?_))
      refine x_iinc (v := 1) dX6_draws_85 rfl (by decide) (by decide) rfl ?_
      refine x_goto (tgt := 44) dX6_draws_88 (by decide) ?_
      rw [LX6_sers] at hf
      refine xV.sub (L' := [.ref (A 0), .int (nI (j + 1)), xU]) ⟨Or.inr rfl, Or.inr (congrArg Value.int (nI_1 j)), Or.inl rfl, trivial⟩ (ih (j + 1) _ h2 (by omega) hf hM2 hF2)
  have wipe : (∀ h', xMod G A (mdI I) (vrM V (FX6_draws I V)) h' → xfM A h h' → Q none h') → ∀ (n9 j : Nat) (r9 : xR2) (h1 : xH), j + n9 = 3840 → (∀ i, i < j → r9.1 i = 0 ∧ r9.2 i = 0) → xMod G A (mdI I) (vrM V r9) h1 → xfM A h h1 → xV G l mX6_draws (d + 7) 0 0 0 0 15 [.ref (A 0), .int (nI j), xU] [] h1 Q := by
    intro hQ n9
    have outer := outer hQ
    clear hM
    induction n9 with
    | zero =>
      intro j r9 h1 hj hz hM hF
      refine x_iload_n dX6_draws_15 rfl ?_
      refine x_sipush (v := 3840) dX6_draws_16 (by decide) ?_
      refine x_icmp_ge (tgt := 42) dX6_draws_19 (by decide) (fun _ => ?_) (fun z9 => absurd (nI_le (a := 3840) (b := j) (by omega) (by omega)) z9)
      refine x_rext (hM.r 23 (by decide) (by decide)) (f' := fun _ => 0) (fun i hi => (hz i (by have : xMn 23 = 3840 := rfl; omega)).1) ?_
      have hM1 := hM.w hA 23 (by decide) (fun _ => 0)
      refine x_rext (hM1.r 24 (by decide) (by decide)) (f' := fun _ => 0) (fun i hi => (hz i (by have : xMn 24 = 3840 := rfl; omega)).2) ?_
      have hM2 := hM1.w hA 24 (by decide) (fun _ => 0)
      rw [vrM_up] at hM2
      refine x_iconst (v := 0) dX6_draws_42 (by decide) ?_
      refine x_istore_n dX6_draws_43 (by decide) rfl ?_
      refine xV.sub (L' := [.ref (A 0), .int (nI 0), xU]) ⟨Or.inr rfl, Or.inr (congrArg Value.int nI_0.symm), Or.inl rfl, trivial⟩ (outer _ 0 xR0 _ (by omega) rfl hM2 (hF.tr (fun a9 ha => by rw [xup_n (ha 24), xup_n (ha 23)])))
    | succ n9 ih =>
      intro j r9 h1 hj hz hM hF
      refine x_iload_n dX6_draws_15 rfl ?_
      refine x_sipush (v := 3840) dX6_draws_16 (by decide) ?_
      refine x_icmp_ge (tgt := 42) dX6_draws_19 (by decide) (fun z9 => absurd z9 (nI_ge (a := j) (b := 3840) (by omega) (by decide))) (fun _ => ?_)
      refine x_aload_n dX6_draws_22 rfl ?_
      refine x_get 23 dX6_draws_23 hM.1 rfl (by decide) (by decide +kernel) rfl ?_
      refine x_iload_n dX6_draws_26 rfl ?_
      refine x_iconst (v := 0) dX6_draws_27 (by decide) ?_
      refine x_iast dX6_draws_28 (hM.r 23 (by decide) (by decide)) (vp_in_nI (N := 3840) (by omega) (by decide)) ?_
      refine x_aload_n dX6_draws_29 rfl ?_
      refine x_get 24 dX6_draws_30 (xup_k (hA (by decide)) hM.1) rfl (by decide) (by decide +kernel) rfl ?_
      refine x_iload_n dX6_draws_33 rfl ?_
      refine x_iconst (v := 0) dX6_draws_34 (by decide) ?_
      refine x_iast dX6_draws_35 (xup_k (hA (by decide)) (hM.r 24 (by decide) (by decide))) (vp_in_nI (N := 3840) (by omega) (by decide)) ?_
      refine x_iinc (v := 1) dX6_draws_36 rfl (by decide) (by decide) rfl ?_
      refine x_goto (tgt := 15) dX6_draws_39 (by decide) ?_
      have hM1 := (hM.w hA 23 (by decide) (upd (vrM V r9 23) (Int32.toNatClampNeg (nI j)) (0 : Int32))).w hA 24 (by decide) (upd (vrM V r9 24) (Int32.toNatClampNeg (nI j)) (0 : Int32))
      rw [vrM_up] at hM1
      refine xV.sub (L' := [.ref (A 0), .int (nI (j + 1)), xU]) ⟨Or.inr rfl, Or.inr (congrArg Value.int (nI_1 j)), Or.inl rfl, trivial⟩ (ih (j + 1) _ _ (by omega) (fun i hi => by
        rw [nI_clamp (by omega)]
        by_cases e : i = j
        · subst e; exact ⟨pk_us, pk_us⟩
        · exact ⟨(pk_un e).trans (hz i (by omega)).1, (pk_un e).trans (hz i (by omega)).2⟩) hM1 (hF.tr (fun a9 ha => by rw [xup_n (ha 24), xup_n (ha 23)])))
  refine x_aload_n dX6_draws_0 rfl ?_
  refine x_get 22 dX6_draws_1 hM.1 rfl (by decide) (by decide +kernel) rfl ?_
  refine x_if_eq (tgt := 8) dX6_draws_4 (by decide) (fun hc_4 => ?_) (fun hc_4 => ?_)
  · have hQ := hQ1 hc_4
    clear hQ0 hQ1
    refine x_aload_n dX6_draws_8 rfl ?_
    refine x_iconst (v := 1) dX6_draws_9 (by decide) ?_
    refine x_put 22 dX6_draws_10 hM.1 rfl (by decide) (by decide +kernel) rfl rfl rfl rfl (Nat.le_of_ble_eq_true rfl) ?_
    refine x_iconst (v := 0) dX6_draws_13 (by decide) ?_
    refine x_istore_n dX6_draws_14 (by decide) rfl ?_
    have hM1 := hM.o hA (mdI I)
    rw [← vrM_self V] at hM1
    refine xV.sub (L' := [.ref (A 0), .int (nI 0), xU]) ⟨Or.inr rfl, Or.inr (congrArg Value.int nI_0.symm), Or.inl rfl, trivial⟩ (wipe hQ 3840 0 (V 23, V 24) _ (by omega) (fun i hi => absurd hi (Nat.not_lt_zero i)) hM1 (fun a9 ha => by rw [xup_n (ha 0)]))
  · exact x_vret dX6_draws_7 rfl (hQ0 hc_4)
theorem kX6_drawsA {G : xG} {l : Launch} {d : Nat} {h : xH} {Q : Option Value → xH → Prop} {A : Nat → Nat} {I : xMi} {V : Nat → Nat → Int32} (hM : xMod G A I V h) (hA : ∀ {i j : Nat}, i ≠ j → A i ≠ A j) (h6 : I.2.2.1.toInt ≤ 6) (hdv : ∀ ax, vp_in ax 2 → ¬ (2 : Int64) * FX6_span I V ax = 0) (hpt : ∀ j, j < 6 → (V 11 j).toNatClampNeg ≤ 24) (hok : ∀ j, j < (I.2.2.1).toNatClampNeg → ∀ i, i < (V 11 j).toNatClampNeg → ¬ FX6_isSeen (mdI I) V (nI j) (nI i) = 0 → mdrOk (mdI I) V (nI j) (nI i)) (hfr : ¬ I.2.2.2.2 = 0 → I.2.2.2.2 = 1 ∧ FX6_draws I V = (V 23, V 24)) (hQ : (∀ h', xMod G A (mdI I) (vrM V (FX6_draws I V)) h' → xfM A h h' → Q none h')) : xV G l mX6_draws (d + 7) 0 0 0 0 0 [.ref (A 0), xU, xU] [] h Q := by
  refine kX6_draws hM hA h6 hdv hpt hok (fun q => ?_) (fun _ => hQ)
  obtain ⟨a, b⟩ := hfr q
  refine hQ h ?_ xfM.rf
  rw [b, vrM_self, show mdI I = I from Prod.ext rfl (Prod.ext rfl (Prod.ext rfl (Prod.ext rfl a.symm)))]
  exact hM
