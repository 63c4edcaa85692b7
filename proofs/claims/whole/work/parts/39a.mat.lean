section MLAT
variable {I : xMi} {V : Nat → Nat → Int32} {q ah : Int32}
theorem mlat_rng0 : ∀ (n9 j : Nat) (bs : Int32), j + n9 = (I.2.2.1).toNatClampNeg → (bs = -1 ∨ ∃ k, k < (I.2.2.1).toNatClampNeg ∧ bs = nI k) → (LX6_latest I V q ah n9 j bs = -1 ∨ ∃ k, k < (I.2.2.1).toNatClampNeg ∧ LX6_latest I V q ah n9 j bs = nI k) := by
  intro n9
  induction n9 with
  | zero => intro j bs _ h; rw [LX6_latest]; exact h
  | succ n9 ih =>
    intro j bs hj h
    rw [LX6_latest]
    refine ih _ _ (by omega) ?_
    split
    · exact h
    · generalize (if ah < 0 then (1 : Int32) else _) = z
      split
      · exact h
      · split
        · exact Or.inr ⟨j, by omega, rfl⟩
        · split
          · exact h
          · exact Or.inr ⟨j, by omega, rfl⟩
theorem mlat_rng : FX6_latest I V q ah = -1 ∨ ∃ k, k < (I.2.2.1).toNatClampNeg ∧ FX6_latest I V q ah = nI k := mlat_rng0 _ 0 _ (by omega) (Or.inl rfl)
theorem mlat_in (h6 : I.2.2.1.toInt ≤ 6) (h : ¬ FX6_latest I V q ah < 0) : vp_in (FX6_latest I V q ah) 6 := by
  rcases mlat_rng (I := I) (V := V) (q := q) (ah := ah) with e | ⟨k, hk, e⟩
  · rw [e] at h; exact absurd (by decide) h
  · rw [e]; exact ml_in h6 hk
theorem mlat_ix (h6 : I.2.2.1.toInt ≤ 6) (hq : vp_in q 640) (h : ¬ FX6_latest I V q ah < 0) : vp_in ((640 * FX6_latest I V q ah) + q) 3840 := by
  rcases mlat_rng (I := I) (V := V) (q := q) (ah := ah) with e | ⟨k, hk, e⟩
  · rw [e] at h; exact absurd (by decide) h
  · rw [e]; exact md_in h6 hk hq
/-- series t stands ahead of series a in the order of drawing -/
def mbef (V : Nat → Nat → Int32) (t a : Int32) : Prop := V 9 (Int32.toNatClampNeg t) < V 9 (Int32.toNatClampNeg a) ∨ (V 9 (Int32.toNatClampNeg t) = V 9 (Int32.toNatClampNeg a) ∧ t < a)
theorem mlat_bef0 (ha : ¬ ah < 0) : ∀ (n9 j : Nat) (bs : Int32), (¬ bs < 0 → mbef V bs ah) → (¬ LX6_latest I V q ah n9 j bs < 0 → mbef V (LX6_latest I V q ah n9 j bs) ah) := by
  intro n9
  induction n9 with
  | zero => intro j bs h; rw [LX6_latest]; exact h
  | succ n9 ih =>
    intro j bs h
    rw [LX6_latest]
    refine ih _ _ ?_
    split
    · exact h
    · try rw [if_neg ha]
      by_cases h1 : V 9 (Int32.toNatClampNeg (nI j)) < V 9 (Int32.toNatClampNeg ah)
      · rw [if_pos h1, if_neg (by decide)]
        split
        · exact fun _ => Or.inl h1
        · split
          · exact h
          · exact fun _ => Or.inl h1
      · rw [if_neg h1]
        by_cases h2 : V 9 (Int32.toNatClampNeg (nI j)) = V 9 (Int32.toNatClampNeg ah)
        · rw [if_pos h2]
          by_cases h3 : ah ≤ nI j
          · rw [if_pos h3, if_pos rfl]; exact h
          · rw [if_neg h3, if_neg (by decide)]
            have h4 : nI j < ah := Int32.not_le.mp h3
            split
            · exact fun _ => Or.inr ⟨h2, h4⟩
            · split
              · exact h
              · exact fun _ => Or.inr ⟨h2, h4⟩
        · rw [if_neg h2, if_pos rfl]; exact h
theorem mlat_bef (ha : ¬ ah < 0) (h : ¬ FX6_latest I V q ah < 0) : mbef V (FX6_latest I V q ah) ah := mlat_bef0 ha _ _ _ (fun z => absurd (by decide) z) h
/-- a measure of that order -/
def mrk (V : Nat → Nat → Int32) (t : Int32) : Int := (V 9 (Int32.toNatClampNeg t)).toInt * 8 + t.toInt
theorem mrk_lt {t a : Int32} (ht : vp_in t 6) (ha : vp_in a 6) (h : mbef V t a) : mrk V t < mrk V a := by
  rw [vp_in_iff] at ht ha
  unfold mrk
  rcases h with h | ⟨h1, h2⟩
  · rw [Int32.lt_iff_toInt_lt] at h; omega
  · rw [h1]; rw [Int32.lt_iff_toInt_lt] at h2; omega
end MLAT
theorem mcr_in {cn rn j r : Nat} (hc : cn ≤ 40) (hr : rn ≤ 16) (hj : j < cn) (hr2 : r < rn) : vp_in ((nI r * nI cn) + nI j) 640 := by
  rw [pk_mul, nI_add]
  have h1 : r * cn ≤ 15 * cn := Nat.mul_le_mul_right _ (by omega)
  exact vp_in_nI (by omega) (by decide)
theorem mcell_of {I : xMi} {V : Nat → Nat → Int32} {x y : Int32} {cn rn : Nat} (hcn : I.1 = nI cn) (hrn : I.2.1 = nI rn) (hc : cn ≤ 40) (hr : rn ≤ 16) (h : ¬ FX6_isCell I V x y = 0) : ∃ j r : Nat, j < cn ∧ r < rn ∧ x = nI j ∧ y = nI r := by
  unfold FX6_isCell at h
  by_cases h1 : FX6_in x 0 (I.1 - 1) = 0
  · rw [if_pos h1] at h; exact absurd rfl h
  · rw [if_neg h1] at h
    by_cases h2 : FX6_in y 0 (I.2.1 - 1) = 0
    · rw [if_pos h2] at h; exact absurd rfl h
    · have e1 : (1 : Int32).toInt = 1 := rfl
      have hx : vp_in x cn := by
        refine in_vp h1 ?_
        rw [hcn, Int32.toInt_sub, e1, nI_toInt (by omega)]
        have : ((cn : Int) - 1).bmod (2 ^ 32) = (cn : Int) - 1 := by rw [Int.bmod_def]; omega
        omega
      have hy : vp_in y rn := by
        refine in_vp h2 ?_
        rw [hrn, Int32.toInt_sub, e1, nI_toInt (by omega)]
        have : ((rn : Int) - 1).bmod (2 ^ 32) = (rn : Int) - 1 := by rw [Int.bmod_def]; omega
        omega
      obtain ⟨j, hj, rfl⟩ := vp_in_of hx (by omega)
      obtain ⟨r, hr3, rfl⟩ := vp_in_of hy (by omega)
      exact ⟨j, r, hj, hr3, rfl, rfl⟩
theorem mcell_in {I : xMi} {V : Nat → Nat → Int32} {x y : Int32} {cn rn : Nat} (hcn : I.1 = nI cn) (hrn : I.2.1 = nI rn) (hc : cn ≤ 40) (hr : rn ≤ 16) (h : ¬ FX6_isCell I V x y = 0) : vp_in ((y * I.1) + x) 640 := by
  obtain ⟨j, r, h1, h2, rfl, rfl⟩ := mcell_of hcn hrn hc hr h
  rw [hcn]
  exact mcr_in hc hr h1 h2
def FX6_signAt (I : xMi) (V : Nat → Nat → Int32) (x : Int32) (y : Int32) : Int32 := (if (FX6_labelAt I V x y) < 0 then (if 0 ≤ (FX6_latest I V ((y * I.1) + x) (-1 : Int32)) then ((V 23) (Int32.toNatClampNeg (((640 : Int32) * (FX6_latest I V ((y * I.1) + x) (-1 : Int32))) + ((y * I.1) + x)))) else (32 : Int32)) else ((8192 : Int32) + (FX6_labelAt I V x y)))
set_option maxHeartbeats 4000000 in
set_option maxRecDepth 100000 in
theorem kX6_signAt {G : xG} {l : Launch} {d : Nat} {h : xH} {Q : Option Value → xH → Prop} {A : Nat → Nat} {I : xMi} {V : Nat → Nat → Int32} {x : Int32} {y : Int32} (hM : xMod G A I V h) (h6 : I.2.2.1.toInt ≤ 6) (hl20 : I.2.2.2.1 ≤ 20) (hq : vp_in ((y * I.1) + x) 640)  (hQ : Q (some (.int (FX6_signAt I V x y))) h) : xV G l mX6_signAt (d + 2) 0 0 0 0 0 [.ref (A 0), .int x, .int y, xU, xU, xU] [] h Q := by
  refine x_aload_n dX6_signAt_0 rfl ?_
  refine x_iload_n dX6_signAt_1 rfl ?_
  refine x_iload_n dX6_signAt_2 rfl ?_
  refine x_callV (M' := mX6_labelAt) (mc' := 0) (ms' := 0) (As := [.int x, .int y]) dX6_signAt_3 gX6_signAt_X6_labelAt okX6_labelAt rfl rfl hM.1 rfl (Nat.le_of_ble_eq_true rfl) (Nat.le_of_ble_eq_true rfl) (Nat.le_refl _) (Nat.le_refl _) (Nat.le_refl _) ?_
  refine kX6_labelAt hM hl20 ?_
  show xV _ _ _ _ _ _ _ _ _ _ _ _ _
  refine x_istore_n dX6_signAt_6 (by decide) rfl ?_
  refine x_iload_n dX6_signAt_7 rfl ?_
  refine x_if_lt (tgt := 17) dX6_signAt_8 (by decide) (fun hc_8 => ?_) (fun hc_8 => ?_)
  · refine x_iload_n dX6_signAt_17 rfl ?_
    refine x_aload_n dX6_signAt_18 rfl ?_
    refine x_get 0 dX6_signAt_19 hM.1 rfl (by decide) (by decide +kernel) rfl ?_
    refine x_imul dX6_signAt_22 ?_
    refine x_iload_n dX6_signAt_23 rfl ?_
    refine x_iadd dX6_signAt_24 ?_
    refine x_istore dX6_signAt_25 (by decide) rfl ?_
    refine x_aload_n dX6_signAt_27 rfl ?_
    refine x_iload dX6_signAt_28 rfl ?_
    refine x_iconst (v := (-1)) dX6_signAt_30 (by decide) ?_
    refine x_callV (M' := mX6_latest) (mc' := 0) (ms' := 0) (As := [.int ((y * I.1) + x), .int (-1 : Int32)]) dX6_signAt_31 gX6_signAt_X6_latest okX6_latest rfl rfl hM.1 rfl (Nat.le_of_ble_eq_true rfl) (Nat.le_of_ble_eq_true rfl) (Nat.le_refl _) (Nat.le_refl _) (Nat.le_refl _) ?_
    refine kX6_latest hM h6 hq (fun z => absurd (by decide) z) ?_
    show xV _ _ _ _ _ _ _ _ _ _ _ _ _
    refine x_istore dX6_signAt_34 (by decide) rfl ?_
    refine x_iload dX6_signAt_36 rfl ?_
    have J60 : xV G l mX6_signAt (d + 2) 0 0 0 0 60 [.ref (A 0), .int x, .int y, .int (FX6_labelAt I V x y), .int ((y * I.1) + x), .int (FX6_latest I V ((y * I.1) + x) (-1 : Int32))] [.int (if 0 ≤ (FX6_latest I V ((y * I.1) + x) (-1 : Int32)) then ((V 23) (Int32.toNatClampNeg (((640 : Int32) * (FX6_latest I V ((y * I.1) + x) (-1 : Int32))) + ((y * I.1) + x)))) else (32 : Int32))] h Q := by
      exact x_iret dX6_signAt_60 rfl (xri (by unfold FX6_signAt; rw [if_pos hc_8]) hQ)
    refine x_if_ge (tgt := 46) dX6_signAt_38 (by decide) (fun hc_38 => ?_) (fun hc_38 => ?_)
    · refine x_aload_n dX6_signAt_46 rfl ?_
      refine x_get 23 dX6_signAt_47 hM.1 rfl (by decide) (by decide +kernel) rfl ?_
      refine x_sipush (v := 640) dX6_signAt_50 (by decide) ?_
      refine x_iload dX6_signAt_53 rfl ?_
      refine x_imul dX6_signAt_55 ?_
      refine x_iload dX6_signAt_56 rfl ?_
      refine x_iadd dX6_signAt_58 ?_
      refine x_iald dX6_signAt_59 (hM.r 23 (by decide) (by decide)) (mlat_ix h6 hq (Int32.not_lt.mpr hc_38)) ?_
      exact x_ls rfl (by first | rfl | (rw [if_pos hc_38] <;> rfl) | (simp only [if_pos hc_38]; rfl) | (simp only [if_pos hc_38])) J60
    · refine x_bipush (v := 32) dX6_signAt_41 (by decide) ?_
      refine x_goto (tgt := 60) dX6_signAt_43 (by decide) ?_
      exact x_ls rfl (by first | rfl | (rw [if_neg hc_38] <;> rfl) | (simp only [if_neg hc_38]; rfl) | (simp only [if_neg hc_38])) J60
  · refine x_sipush (v := 8192) dX6_signAt_11 (by decide) ?_
    refine x_iload_n dX6_signAt_14 rfl ?_
    refine x_iadd dX6_signAt_15 ?_
    exact x_iret dX6_signAt_16 rfl (xri (by unfold FX6_signAt; rw [if_neg hc_8]) hQ)
/-- the reference is fit to draw, and what it has drawn is what it would draw -/
def mRdy (I : xMi) (V : Nat → Nat → Int32) : Prop := (0 ≤ I.2.2.1.toInt ∧ I.2.2.1.toInt ≤ 6) ∧ (∀ ax, vp_in ax 2 → ¬ (2 : Int64) * FX6_span I V ax = 0) ∧ (∀ j, j < 6 → 0 ≤ (V 11 j).toInt ∧ (V 11 j).toInt ≤ 24) ∧ (∀ j, j < (I.2.2.1).toNatClampNeg → ∀ i, i < (V 11 j).toNatClampNeg → ¬ FX6_isSeen (mdI I) V (nI j) (nI i) = 0 → mdrOk (mdI I) V (nI j) (nI i)) ∧ (¬ I.2.2.2.2 = 0 → I.2.2.2.2 = 1 ∧ FX6_draws I V = (V 23, V 24)) ∧ (I.2.2.2.1 ≤ 20 ∧ 0 ≤ I.2.2.2.1) ∧ ∃ cn rn : Nat, I.1 = nI cn ∧ I.2.1 = nI rn ∧ cn ≤ 40 ∧ rn ≤ 16
abbrev drV (I : xMi) (V : Nat → Nat → Int32) : Nat → Nat → Int32 := vrM V (FX6_draws I V)
theorem kX6_drawsR {G : xG} {l : Launch} {d : Nat} {h : xH} {Q : Option Value → xH → Prop} {A : Nat → Nat} {I : xMi} {V : Nat → Nat → Int32} (hM : xMod G A I V h) (hA : ∀ {i j : Nat}, i ≠ j → A i ≠ A j) (hR : mRdy I V) (hQ : ∀ h', xMod G A (mdI I) (drV I V) h' → xfM A h h' → Q none h') : xV G l mX6_draws (d + 7) 0 0 0 0 0 [.ref (A 0), xU, xU] [] h Q :=
  kX6_drawsA hM hA hR.1.2 hR.2.1 (fun j hj => by have := hR.2.2.1 j hj; unfold Int32.toNatClampNeg; omega) hR.2.2.2.1 hR.2.2.2.2.1 hQ
set_option maxHeartbeats 4000000 in
set_option maxRecDepth 100000 in
theorem kX6_at {G : xG} {l : Launch} {d : Nat} {h : xH} {Q : Option Value → xH → Prop} {A : Nat → Nat} {I : xMi} {V : Nat → Nat → Int32} {x y : Int32} (hM : xMod G A I V h) (hA : ∀ {i j : Nat}, i ≠ j → A i ≠ A j) (hR : mRdy I V) (hQ : (if (FX6_isCell I V x y) = 0 then Q (some (.int (-1 : Int32))) h else (∀ h', xMod G A (mdI I) (drV I V) h' → xfM A h h' → Q (some (.int (FX6_signAt (mdI I) (drV I V) x y))) h'))) : xV G l mX6_at (d + 8) 0 0 0 0 0 [.ref (A 0), .int x, .int y] [] h Q := by
  obtain ⟨cn, rn, hcn, hrn, hc40, hr16⟩ := hR.2.2.2.2.2.2
  refine x_aload_n dX6_at_0 rfl ?_
  refine x_iload_n dX6_at_1 rfl ?_
  refine x_iload_n dX6_at_2 rfl ?_
  refine x_callV (M' := mX6_isCell) (mc' := 0) (ms' := 0) (As := [.int x, .int y]) dX6_at_3 gX6_at_X6_isCell okX6_isCell rfl rfl hM.1 rfl (Nat.le_of_ble_eq_true rfl) (Nat.le_of_ble_eq_true rfl) (Nat.le_refl _) (Nat.le_refl _) (Nat.le_refl _) ?_
  refine kX6_isCell hM ?_
  show xV _ _ _ _ _ _ _ _ _ _ _ _ _
  refine x_if_ne (tgt := 11) dX6_at_6 (by decide) (fun hc_6 => ?_) (fun hc_6 => ?_)
  · refine x_aload_n dX6_at_11 rfl ?_
    refine x_callV (M' := mX6_draws) (mc' := 0) (ms' := 0) (As := []) dX6_at_12 gX6_at_X6_draws okX6_draws rfl rfl hM.1 rfl (Nat.le_of_ble_eq_true rfl) (Nat.le_of_ble_eq_true rfl) (Nat.le_refl _) (Nat.le_refl _) (Nat.le_refl _) ?_
    refine kX6_drawsR hM hA hR (fun h9 hM9 hF9 => ?_)
    have hM0 := hM
    clear hM
    have hM := hM9
    show xV _ _ _ _ _ _ _ _ _ _ _ _ _
    refine x_aload_n dX6_at_15 rfl ?_
    refine x_iload_n dX6_at_16 rfl ?_
    refine x_iload_n dX6_at_17 rfl ?_
    refine x_callV (M' := mX6_signAt) (mc' := 0) (ms' := 0) (As := [.int x, .int y]) dX6_at_18 gX6_at_X6_signAt okX6_signAt rfl rfl hM.1 rfl (Nat.le_of_ble_eq_true rfl) (Nat.le_of_ble_eq_true rfl) (Nat.le_refl _) (Nat.le_refl _) (Nat.le_refl _) ?_
    refine kX6_signAt hM hR.1.2 hR.2.2.2.2.2.1.1 (mcell_in (I := I) (V := V) hcn hrn hc40 hr16 hc_6) ?_
    show xV _ _ _ _ _ _ _ _ _ _ _ _ _
    rw [if_neg hc_6] at hQ
    exact x_iret dX6_at_21 rfl (hQ h9 hM9 hF9)
  · refine x_iconst (v := (-1)) dX6_at_9 (by decide) ?_
    rw [if_pos hc_6] at hQ
    exact x_iret dX6_at_10 rfl hQ
set_option maxHeartbeats 4000000 in
set_option maxRecDepth 100000 in
theorem kX6_shown {G : xG} {l : Launch} {d : Nat} {h : xH} {Q : Option Value → xH → Prop} {A : Nat → Nat} {I : xMi} {V : Nat → Nat → Int32} {x y : Int32} (hM : xMod G A I V h) (hA : ∀ {i j : Nat}, i ≠ j → A i ≠ A j) (hR : mRdy I V) (hQ : (if (FX6_isCell I V x y) = 0 then Q (some (.int (-1 : Int32))) h else (if (FX6_labelAt (mdI I) (drV I V) x y) < 0 then (if 0 ≤ (FX6_latest (mdI I) (drV I V) ((y * (mdI I).1) + x) (-1 : Int32)) then (∀ h', xMod G A (mdI I) (drV I V) h' → xfM A h h' → Q (some (.int (FX6_latest (mdI I) (drV I V) ((y * (mdI I).1) + x) (-1 : Int32)))) h') else (∀ h', xMod G A (mdI I) (drV I V) h' → xfM A h h' → Q (some (.int (-9 : Int32))) h')) else (∀ h', xMod G A (mdI I) (drV I V) h' → xfM A h h' → Q (some (.int ((10 : Int32) + (FX6_labelAt (mdI I) (drV I V) x y)))) h')))) : xV G l mX6_shown (d + 8) 0 0 0 0 0 [.ref (A 0), .int x, .int y, xU, xU] [] h Q := by
  obtain ⟨cn, rn, hcn, hrn, hc40, hr16⟩ := hR.2.2.2.2.2.2
  refine x_aload_n dX6_shown_0 rfl ?_
  refine x_iload_n dX6_shown_1 rfl ?_
  refine x_iload_n dX6_shown_2 rfl ?_
  refine x_callV (M' := mX6_isCell) (mc' := 0) (ms' := 0) (As := [.int x, .int y]) dX6_shown_3 gX6_shown_X6_isCell okX6_isCell rfl rfl hM.1 rfl (Nat.le_of_ble_eq_true rfl) (Nat.le_of_ble_eq_true rfl) (Nat.le_refl _) (Nat.le_refl _) (Nat.le_refl _) ?_
  refine kX6_isCell hM ?_
  show xV _ _ _ _ _ _ _ _ _ _ _ _ _
  refine x_if_ne (tgt := 11) dX6_shown_6 (by decide) (fun hc_6 => ?_) (fun hc_6 => ?_)
  · refine x_aload_n dX6_shown_11 rfl ?_
    refine x_callV (M' := mX6_draws) (mc' := 0) (ms' := 0) (As := []) dX6_shown_12 gX6_shown_X6_draws okX6_draws rfl rfl hM.1 rfl (Nat.le_of_ble_eq_true rfl) (Nat.le_of_ble_eq_true rfl) (Nat.le_refl _) (Nat.le_refl _) (Nat.le_refl _) ?_
    refine kX6_drawsR hM hA hR (fun h9 hM9 hF9 => ?_)
    have hM0 := hM
    clear hM
    have hM := hM9
    show xV _ _ _ _ _ _ _ _ _ _ _ _ _
    refine x_aload_n dX6_shown_15 rfl ?_
    refine x_iload_n dX6_shown_16 rfl ?_
    refine x_iload_n dX6_shown_17 rfl ?_
    refine x_callV (M' := mX6_labelAt) (mc' := 0) (ms' := 0) (As := [.int x, .int y]) dX6_shown_18 gX6_shown_X6_labelAt okX6_labelAt rfl rfl hM.1 rfl (Nat.le_of_ble_eq_true rfl) (Nat.le_of_ble_eq_true rfl) (Nat.le_refl _) (Nat.le_refl _) (Nat.le_refl _) ?_
    refine kX6_labelAt hM hR.2.2.2.2.2.1.1 ?_
    show xV _ _ _ _ _ _ _ _ _ _ _ _ _
    refine x_istore_n dX6_shown_21 (by decide) rfl ?_
    refine x_aload_n dX6_shown_22 rfl ?_
    refine x_iload_n dX6_shown_23 rfl ?_
    refine x_aload_n dX6_shown_24 rfl ?_
    refine x_get 0 dX6_shown_25 hM.1 rfl (by decide) (by decide +kernel) rfl ?_
    refine x_imul dX6_shown_28 ?_
    refine x_iload_n dX6_shown_29 rfl ?_
    refine x_iadd dX6_shown_30 ?_
    refine x_iconst (v := (-1)) dX6_shown_31 (by decide) ?_
    refine x_callV (M' := mX6_latest) (mc' := 0) (ms' := 0) (As := [.int ((y * (mdI I).1) + x), .int (-1 : Int32)]) dX6_shown_32 gX6_shown_X6_latest okX6_latest rfl rfl hM.1 rfl (Nat.le_of_ble_eq_true rfl) (Nat.le_of_ble_eq_true rfl) (Nat.le_refl _) (Nat.le_refl _) (Nat.le_refl _) ?_
    refine kX6_latest hM hR.1.2 (mcell_in (I := I) (V := V) hcn hrn hc40 hr16 hc_6) (fun z => absurd (by decide) z) ?_
    show xV _ _ _ _ _ _ _ _ _ _ _ _ _
    refine x_istore dX6_shown_35 (by decide) rfl ?_
    refine x_iload_n dX6_shown_37 rfl ?_
    refine x_if_lt (tgt := 48) dX6_shown_38 (by decide) (fun hc_38 => ?_) (fun hc_38 => ?_)
    · refine x_iload dX6_shown_48 rfl ?_
      refine x_if_ge (tgt := 58) dX6_shown_50 (by decide) (fun hc_50 => ?_) (fun hc_50 => ?_)
      · refine x_iload dX6_shown_58 rfl ?_
        rw [if_neg hc_6, if_pos hc_38, if_pos hc_50] at hQ
        exact x_iret dX6_shown_60 rfl (hQ h9 hM9 hF9)
      · refine x_bipush (v := (-9)) dX6_shown_53 (by decide) ?_
        refine x_goto (tgt := 60) dX6_shown_55 (by decide) ?_
        rw [if_neg hc_6, if_pos hc_38, if_neg hc_50] at hQ
        exact x_iret dX6_shown_60 rfl (hQ h9 hM9 hF9)
    · refine x_bipush (v := 10) dX6_shown_41 (by decide) ?_
      refine x_iload_n dX6_shown_43 rfl ?_
      refine x_iadd dX6_shown_44 ?_
      refine x_goto (tgt := 60) dX6_shown_45 (by decide) ?_
      rw [if_neg hc_6, if_neg hc_38] at hQ
      exact x_iret dX6_shown_60 rfl (hQ h9 hM9 hF9)
  · refine x_iconst (v := (-1)) dX6_shown_9 (by decide) ?_
    rw [if_pos hc_6] at hQ
    exact x_iret dX6_shown_10 rfl hQ
