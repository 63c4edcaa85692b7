theorem ax0 : vp_in 0 2 := show ¬ ((0 : Int32) < 0 ∨ 2 ≤ (0 : Int32).toNatClampNeg) by decide
theorem ax1 : vp_in 1 2 := show ¬ ((1 : Int32) < 0 ∨ 2 ≤ (1 : Int32).toNatClampNeg) by decide
theorem in_iff {v a b : Int32} : ¬ FX6_in v a b = 0 ↔ ¬ v < a ∧ ¬ b < v := by
  unfold FX6_in
  by_cases h1 : v < a
  · simp [h1]
  · by_cases h2 : b < v
    · simp [h1, h2]
    · simp [h1, h2]
theorem in_vp {v b : Int32} {n : Nat} (h : ¬ FX6_in v 0 b = 0) (hb : b.toInt < n) : vp_in v n := by
  obtain ⟨h1, h2⟩ := in_iff.mp h
  rw [Int32.lt_iff_toInt_lt] at h1 h2
  have e0 : (0 : Int32).toInt = 0 := rfl
  rw [vp_in_iff]
  omega
theorem axis_in {ax : Int32} (h : ¬ FX6_isAxis ax = 0) : vp_in ax 2 := in_vp (b := 1) h (by decide)
def FX6_place (I : xMi) (V : Nat → Nat → Int32) (ax : Int32) (v : Int32) : Int32 := (if (FX6_isAxis ax) = 0 then (-1 : Int32) else (FX6_placeOf I V ax v))
set_option maxHeartbeats 4000000 in
set_option maxRecDepth 100000 in
theorem kX6_place {G : xG} {l : Launch} {d : Nat} {h : xH} {Q : Option Value → xH → Prop} {A : Nat → Nat} {I : xMi} {V : Nat → Nat → Int32} {ax : Int32} {v : Int32} (hM : xMod G A I V h) (hdv : ∀ ax, vp_in ax 2 → ¬ (2 : Int64) * FX6_span I V ax = 0)  (hQ : Q (some (.int (FX6_place I V ax v))) h) : xV G l mX6_place (d + 4) 0 0 0 0 0 [.ref (A 0), .int ax, .int v] [] h Q := by
  refine x_iload_n dX6_place_0 rfl ?_
  refine x_callS (M' := mX6_isAxis) (mc' := 0) (ms' := 0) (As := [.int ax]) dX6_place_1 gX6_place_X6_isAxis okX6_isAxis rfl rfl (Nat.le_of_ble_eq_true rfl) (Nat.le_of_ble_eq_true rfl) (Nat.le_refl _) (Nat.le_refl _) (Nat.le_refl _) ?_
  refine kX6_isAxis  ?_
  show xV _ _ _ _ _ _ _ _ _ _ _ _ _
  have J17 : xV G l mX6_place (d + 4) 0 0 0 0 17 [.ref (A 0), .int ax, .int v] [.int (if (FX6_isAxis ax) = 0 then (-1 : Int32) else (FX6_placeOf I V ax v))] h Q := by
    exact x_iret dX6_place_17 rfl (xri (by unfold FX6_place; rfl) hQ)
  refine x_if_eq (tgt := 16) dX6_place_4 (by decide) (fun hc_4 => ?_) (fun hc_4 => ?_)
  · refine x_iconst (v := (-1)) dX6_place_16 (by decide) ?_
    exact x_ls rfl (by first | rfl | (rw [if_pos hc_4] <;> rfl) | (simp only [if_pos hc_4]; rfl) | (simp only [if_pos hc_4])) J17
  · refine x_aload_n dX6_place_7 rfl ?_
    refine x_iload_n dX6_place_8 rfl ?_
    refine x_iload_n dX6_place_9 rfl ?_
    refine x_callV (M' := mX6_placeOf) (mc' := 0) (ms' := 0) (As := [.int ax, .int v]) dX6_place_10 gX6_place_X6_placeOf okX6_placeOf rfl rfl hM.1 rfl (Nat.le_of_ble_eq_true rfl) (Nat.le_of_ble_eq_true rfl) (Nat.le_refl _) (Nat.le_refl _) (Nat.le_refl _) ?_
    refine kX6_placeOf hM (axis_in hc_4) (hdv _ (axis_in hc_4)) ?_
    show xV _ _ _ _ _ _ _ _ _ _ _ _ _
    refine x_goto (tgt := 17) dX6_place_13 (by decide) ?_
    exact x_ls rfl (by first | rfl | (rw [if_neg hc_4] <;> rfl) | (simp only [if_neg hc_4]; rfl) | (simp only [if_neg hc_4])) J17
def FX6_across (I : xMi) (V : Nat → Nat → Int32) (s : Int32) (q : Int32) : Int32 := (FX6_placeOf I V (0 : Int32) ((V 12) (Int32.toNatClampNeg (((24 : Int32) * s) + q))))
set_option maxHeartbeats 4000000 in
set_option maxRecDepth 100000 in
theorem kX6_across {G : xG} {l : Launch} {d : Nat} {h : xH} {Q : Option Value → xH → Prop} {A : Nat → Nat} {I : xMi} {V : Nat → Nat → Int32} {s : Int32} {q : Int32} (hM : xMod G A I V h) (hdv : ∀ ax, vp_in ax 2 → ¬ (2 : Int64) * FX6_span I V ax = 0) (hix : vp_in ((24 * s) + q) 144)  (hQ : Q (some (.int (FX6_across I V s q))) h) : xV G l mX6_across (d + 4) 0 0 0 0 0 [.ref (A 0), .int s, .int q] [] h Q := by
  refine x_aload_n dX6_across_0 rfl ?_
  refine x_iconst (v := 0) dX6_across_1 (by decide) ?_
  refine x_aload_n dX6_across_2 rfl ?_
  refine x_get 12 dX6_across_3 hM.1 rfl (by decide) (by decide +kernel) rfl ?_
  refine x_bipush (v := 24) dX6_across_6 (by decide) ?_
  refine x_iload_n dX6_across_8 rfl ?_
  refine x_imul dX6_across_9 ?_
  refine x_iload_n dX6_across_10 rfl ?_
  refine x_iadd dX6_across_11 ?_
  refine x_iald dX6_across_12 (hM.r 12 (by decide) (by decide)) (by assumption) ?_
  refine x_callV (M' := mX6_placeOf) (mc' := 0) (ms' := 0) (As := [.int (0 : Int32), .int ((V 12) (Int32.toNatClampNeg (((24 : Int32) * s) + q)))]) dX6_across_13 gX6_across_X6_placeOf okX6_placeOf rfl rfl hM.1 rfl (Nat.le_of_ble_eq_true rfl) (Nat.le_of_ble_eq_true rfl) (Nat.le_refl _) (Nat.le_refl _) (Nat.le_refl _) ?_
  refine kX6_placeOf hM ax0 (hdv _ ax0) ?_
  show xV _ _ _ _ _ _ _ _ _ _ _ _ _
  exact x_iret dX6_across_16 rfl (xri (by unfold FX6_across; rfl) hQ)
def FX6_upwards (I : xMi) (V : Nat → Nat → Int32) (s : Int32) (q : Int32) : Int32 := (FX6_placeOf I V (1 : Int32) ((V 13) (Int32.toNatClampNeg (((24 : Int32) * s) + q))))
set_option maxHeartbeats 4000000 in
set_option maxRecDepth 100000 in
theorem kX6_upwards {G : xG} {l : Launch} {d : Nat} {h : xH} {Q : Option Value → xH → Prop} {A : Nat → Nat} {I : xMi} {V : Nat → Nat → Int32} {s : Int32} {q : Int32} (hM : xMod G A I V h) (hdv : ∀ ax, vp_in ax 2 → ¬ (2 : Int64) * FX6_span I V ax = 0) (hix : vp_in ((24 * s) + q) 144)  (hQ : Q (some (.int (FX6_upwards I V s q))) h) : xV G l mX6_upwards (d + 4) 0 0 0 0 0 [.ref (A 0), .int s, .int q] [] h Q := by
  refine x_aload_n dX6_upwards_0 rfl ?_
  refine x_iconst (v := 1) dX6_upwards_1 (by decide) ?_
  refine x_aload_n dX6_upwards_2 rfl ?_
  refine x_get 13 dX6_upwards_3 hM.1 rfl (by decide) (by decide +kernel) rfl ?_
  refine x_bipush (v := 24) dX6_upwards_6 (by decide) ?_
  refine x_iload_n dX6_upwards_8 rfl ?_
  refine x_imul dX6_upwards_9 ?_
  refine x_iload_n dX6_upwards_10 rfl ?_
  refine x_iadd dX6_upwards_11 ?_
  refine x_iald dX6_upwards_12 (hM.r 13 (by decide) (by decide)) (by assumption) ?_
  refine x_callV (M' := mX6_placeOf) (mc' := 0) (ms' := 0) (As := [.int (1 : Int32), .int ((V 13) (Int32.toNatClampNeg (((24 : Int32) * s) + q)))]) dX6_upwards_13 gX6_upwards_X6_placeOf okX6_placeOf rfl rfl hM.1 rfl (Nat.le_of_ble_eq_true rfl) (Nat.le_of_ble_eq_true rfl) (Nat.le_refl _) (Nat.le_refl _) (Nat.le_refl _) ?_
  refine kX6_placeOf hM ax1 (hdv _ ax1) ?_
  show xV _ _ _ _ _ _ _ _ _ _ _ _ _
  exact x_iret dX6_upwards_16 rfl (xri (by unfold FX6_upwards; rfl) hQ)
def FX6_isSeen (I : xMi) (V : Nat → Nat → Int32) (s : Int32) (q : Int32) : Int32 := (if q < 0 then (0 : Int32) else (if ((V 15) (Int32.toNatClampNeg (((24 : Int32) * s) + q))) = 0 then (if (FX6_across I V s q) < 0 then (0 : Int32) else (if (FX6_upwards I V s q) < 0 then (0 : Int32) else (1 : Int32))) else (0 : Int32)))
theorem bFX6_isSeen {I : xMi} {V : Nat → Nat → Int32} {s : Int32} {q : Int32} : FX6_isSeen I V s q = 0 ∨ FX6_isSeen I V s q = 1 := by
  unfold FX6_isSeen
  repeat' (first | with_reducible exact Or.inl rfl | with_reducible exact Or.inr rfl | with_reducible exact bFX5_within | with_reducible exact bFX2_holds | with_reducible exact bFX6_in | with_reducible exact bFX6_isValue | with_reducible exact bFX6_isAxis | with_reducible exact bFX6_isStyle | with_reducible exact bFX6_has | with_reducible exact bFX6_isSeries | with_reducible exact bFX6_isCell | split)
set_option maxHeartbeats 4000000 in
set_option maxRecDepth 100000 in
theorem kX6_isSeen {G : xG} {l : Launch} {d : Nat} {h : xH} {Q : Option Value → xH → Prop} {A : Nat → Nat} {I : xMi} {V : Nat → Nat → Int32} {s : Int32} {q : Int32} (hM : xMod G A I V h) (hdv : ∀ ax, vp_in ax 2 → ¬ (2 : Int64) * FX6_span I V ax = 0) (hix : ¬ q < 0 → vp_in ((24 * s) + q) 144)  (hQ : Q (some (.int (FX6_isSeen I V s q))) h) : xV G l mX6_isSeen (d + 5) 0 0 0 0 0 [.ref (A 0), .int s, .int q] [] h Q := by
  refine x_iload_n dX6_isSeen_0 rfl ?_
  have J41 : xV G l mX6_isSeen (d + 5) 0 0 0 0 41 [.ref (A 0), .int s, .int q] [.int (if q < 0 then (0 : Int32) else (if ((V 15) (Int32.toNatClampNeg (((24 : Int32) * s) + q))) = 0 then (if (FX6_across I V s q) < 0 then (0 : Int32) else (if (FX6_upwards I V s q) < 0 then (0 : Int32) else (1 : Int32))) else (0 : Int32)))] h Q := by
    exact x_zret dX6_isSeen_41 rfl (nbz (by repeat' (first | with_reducible exact Or.inl rfl | with_reducible exact Or.inr rfl | with_reducible exact bFX5_within | with_reducible exact bFX2_holds | with_reducible exact bFX6_in | with_reducible exact bFX6_isValue | with_reducible exact bFX6_isAxis | with_reducible exact bFX6_isStyle | with_reducible exact bFX6_has | with_reducible exact bFX6_isSeries | with_reducible exact bFX6_isCell | split))) (xri (by unfold FX6_isSeen; rfl) hQ)
  refine x_if_lt (tgt := 40) dX6_isSeen_1 (by decide) (fun hc_1 => ?_) (fun hc_1 => ?_)
  · refine x_iconst (v := 0) dX6_isSeen_40 (by decide) ?_
    exact x_ls rfl (by first | rfl | (rw [if_pos hc_1] <;> rfl) | (simp only [if_pos hc_1]; rfl) | (simp only [if_pos hc_1])) J41
  · refine x_aload_n dX6_isSeen_4 rfl ?_
    refine x_get 15 dX6_isSeen_5 hM.1 rfl (by decide) (by decide +kernel) rfl ?_
    refine x_bipush (v := 24) dX6_isSeen_8 (by decide) ?_
    refine x_iload_n dX6_isSeen_10 rfl ?_
    refine x_imul dX6_isSeen_11 ?_
    refine x_iload_n dX6_isSeen_12 rfl ?_
    refine x_iadd dX6_isSeen_13 ?_
    refine x_zald dX6_isSeen_14 hM.z (hix hc_1) ?_
    refine x_if_ne (tgt := 40) dX6_isSeen_15 (by decide) (fun hc_15 => ?_) (fun hc_15 => ?_)
    · refine x_iconst (v := 0) dX6_isSeen_40 (by decide) ?_
      exact x_ls rfl (by first | rfl | (rw [if_neg hc_1, if_neg hc_15] <;> rfl) | (simp only [if_neg hc_1, if_neg hc_15]; rfl) | (simp only [if_neg hc_1, if_neg hc_15])) J41
    · refine x_aload_n dX6_isSeen_18 rfl ?_
      refine x_iload_n dX6_isSeen_19 rfl ?_
      refine x_iload_n dX6_isSeen_20 rfl ?_
      refine x_callV (M' := mX6_across) (mc' := 0) (ms' := 0) (As := [.int s, .int q]) dX6_isSeen_21 gX6_isSeen_X6_across okX6_across rfl rfl hM.1 rfl (Nat.le_of_ble_eq_true rfl) (Nat.le_of_ble_eq_true rfl) (Nat.le_refl _) (Nat.le_refl _) (Nat.le_refl _) ?_
      refine kX6_across hM hdv (hix hc_1) ?_
      show xV _ _ _ _ _ _ _ _ _ _ _ _ _
      refine x_if_lt (tgt := 40) dX6_isSeen_24 (by decide) (fun hc_24 => ?_) (fun hc_24 => ?_)
      · refine x_iconst (v := 0) dX6_isSeen_40 (by decide) ?_
        exact x_ls rfl (by first | rfl | (rw [if_neg hc_1, if_pos hc_15, if_pos hc_24] <;> rfl) | (simp only [if_neg hc_1, if_pos hc_15, if_pos hc_24]; rfl) | (simp only [if_neg hc_1, if_pos hc_15, if_pos hc_24])) J41
      · refine x_aload_n dX6_isSeen_27 rfl ?_
        refine x_iload_n dX6_isSeen_28 rfl ?_
        refine x_iload_n dX6_isSeen_29 rfl ?_
        refine x_callV (M' := mX6_upwards) (mc' := 0) (ms' := 0) (As := [.int s, .int q]) dX6_isSeen_30 gX6_isSeen_X6_upwards okX6_upwards rfl rfl hM.1 rfl (Nat.le_of_ble_eq_true rfl) (Nat.le_of_ble_eq_true rfl) (Nat.le_refl _) (Nat.le_refl _) (Nat.le_refl _) ?_
        refine kX6_upwards hM hdv (hix hc_1) ?_
        show xV _ _ _ _ _ _ _ _ _ _ _ _ _
        refine x_if_lt (tgt := 40) dX6_isSeen_33 (by decide) (fun hc_33 => ?_) (fun hc_33 => ?_)
        · refine x_iconst (v := 0) dX6_isSeen_40 (by decide) ?_
          exact x_ls rfl (by first | rfl | (rw [if_neg hc_1, if_pos hc_15, if_neg hc_24, if_pos hc_33] <;> rfl) | (simp only [if_neg hc_1, if_pos hc_15, if_neg hc_24, if_pos hc_33]; rfl) | (simp only [if_neg hc_1, if_pos hc_15, if_neg hc_24, if_pos hc_33])) J41
        · refine x_iconst (v := 1) dX6_isSeen_36 (by decide) ?_
          refine x_goto (tgt := 41) dX6_isSeen_37 (by decide) ?_
          exact x_ls rfl (by first | rfl | (rw [if_neg hc_1, if_pos hc_15, if_neg hc_24, if_neg hc_33] <;> rfl) | (simp only [if_neg hc_1, if_pos hc_15, if_neg hc_24, if_neg hc_33]; rfl) | (simp only [if_neg hc_1, if_pos hc_15, if_neg hc_24, if_neg hc_33])) J41
theorem ser_in {I : xMi} {V : Nat → Nat → Int32} {s : Int32} (h6 : I.2.2.1.toInt ≤ 6) (h0 : 0 ≤ I.2.2.1.toInt) (h : ¬ FX6_isSeries I V s = 0) : vp_in s 6 := by
  refine in_vp (b := I.2.2.1 - 1) h ?_
  have hm : (-1000 : Int) ≤ I.2.2.1.toInt := by omega
  have e1 : (1 : Int32).toInt = 1 := rfl
  rw [Int32.toInt_sub, e1]
  have : (I.2.2.1.toInt - 1).bmod (2 ^ 32) = I.2.2.1.toInt - 1 := by
    rw [Int.bmod_def]; omega
  omega
def FX6_isPoint (I : xMi) (V : Nat → Nat → Int32) (s : Int32) (q : Int32) : Int32 := (if (FX6_isSeries I V s) = 0 then (0 : Int32) else (if (FX6_in q (0 : Int32) (((V 11) (Int32.toNatClampNeg s)) - (1 : Int32))) = 0 then (0 : Int32) else (1 : Int32)))
theorem bFX6_isPoint {I : xMi} {V : Nat → Nat → Int32} {s : Int32} {q : Int32} : FX6_isPoint I V s q = 0 ∨ FX6_isPoint I V s q = 1 := by
  unfold FX6_isPoint
  repeat' (first | with_reducible exact Or.inl rfl | with_reducible exact Or.inr rfl | with_reducible exact bFX5_within | with_reducible exact bFX2_holds | with_reducible exact bFX6_in | with_reducible exact bFX6_isValue | with_reducible exact bFX6_isAxis | with_reducible exact bFX6_isStyle | with_reducible exact bFX6_has | with_reducible exact bFX6_isSeries | with_reducible exact bFX6_isCell | with_reducible exact bFX6_isSeen | split)
set_option maxHeartbeats 4000000 in
set_option maxRecDepth 100000 in
theorem kX6_isPoint {G : xG} {l : Launch} {d : Nat} {h : xH} {Q : Option Value → xH → Prop} {A : Nat → Nat} {I : xMi} {V : Nat → Nat → Int32} {s : Int32} {q : Int32} (hM : xMod G A I V h) (h6 : I.2.2.1.toInt ≤ 6) (h0 : 0 ≤ I.2.2.1.toInt)  (hQ : Q (some (.int (FX6_isPoint I V s q))) h) : xV G l mX6_isPoint (d + 2) 0 0 0 0 0 [.ref (A 0), .int s, .int q] [] h Q := by
  refine x_aload_n dX6_isPoint_0 rfl ?_
  refine x_iload_n dX6_isPoint_1 rfl ?_
  refine x_callV (M' := mX6_isSeries) (mc' := 0) (ms' := 0) (As := [.int s]) dX6_isPoint_2 gX6_isPoint_X6_isSeries okX6_isSeries rfl rfl hM.1 rfl (Nat.le_of_ble_eq_true rfl) (Nat.le_of_ble_eq_true rfl) (Nat.le_refl _) (Nat.le_refl _) (Nat.le_refl _) ?_
  refine kX6_isSeries hM  ?_
  show xV _ _ _ _ _ _ _ _ _ _ _ _ _
  have J29 : xV G l mX6_isPoint (d + 2) 0 0 0 0 29 [.ref (A 0), .int s, .int q] [.int (if (FX6_isSeries I V s) = 0 then (0 : Int32) else (if (FX6_in q (0 : Int32) (((V 11) (Int32.toNatClampNeg s)) - (1 : Int32))) = 0 then (0 : Int32) else (1 : Int32)))] h Q := by
    exact x_zret dX6_isPoint_29 rfl (nbz (by repeat' (first | with_reducible exact Or.inl rfl | with_reducible exact Or.inr rfl | with_reducible exact bFX5_within | with_reducible exact bFX2_holds | with_reducible exact bFX6_in | with_reducible exact bFX6_isValue | with_reducible exact bFX6_isAxis | with_reducible exact bFX6_isStyle | with_reducible exact bFX6_has | with_reducible exact bFX6_isSeries | with_reducible exact bFX6_isCell | with_reducible exact bFX6_isSeen | split))) (xri (by unfold FX6_isPoint; rfl) hQ)
  refine x_if_eq (tgt := 28) dX6_isPoint_5 (by decide) (fun hc_5 => ?_) (fun hc_5 => ?_)
  · refine x_iconst (v := 0) dX6_isPoint_28 (by decide) ?_
    exact x_ls rfl (by first | rfl | (rw [if_pos hc_5] <;> rfl) | (simp only [if_pos hc_5]; rfl) | (simp only [if_pos hc_5])) J29
  · refine x_iload_n dX6_isPoint_8 rfl ?_
    refine x_iconst (v := 0) dX6_isPoint_9 (by decide) ?_
    refine x_aload_n dX6_isPoint_10 rfl ?_
    refine x_get 11 dX6_isPoint_11 hM.1 rfl (by decide) (by decide +kernel) rfl ?_
    refine x_iload_n dX6_isPoint_14 rfl ?_
    refine x_iald dX6_isPoint_15 (hM.r 11 (by decide) (by decide)) (ser_in h6 h0 hc_5) ?_
    refine x_iconst (v := 1) dX6_isPoint_16 (by decide) ?_
    refine x_isub dX6_isPoint_17 ?_
    refine x_callS (M' := mX6_in) (mc' := 0) (ms' := 0) (As := [.int q, .int (0 : Int32), .int (((V 11) (Int32.toNatClampNeg s)) - (1 : Int32))]) dX6_isPoint_18 gX6_isPoint_X6_in okX6_in rfl rfl (Nat.le_of_ble_eq_true rfl) (Nat.le_of_ble_eq_true rfl) (Nat.le_refl _) (Nat.le_refl _) (Nat.le_refl _) ?_
    refine kX6_in  ?_
    show xV _ _ _ _ _ _ _ _ _ _ _ _ _
    refine x_if_eq (tgt := 28) dX6_isPoint_21 (by decide) (fun hc_21 => ?_) (fun hc_21 => ?_)
    · refine x_iconst (v := 0) dX6_isPoint_28 (by decide) ?_
      exact x_ls rfl (by first | rfl | (rw [if_neg hc_5, if_pos hc_21] <;> rfl) | (simp only [if_neg hc_5, if_pos hc_21]; rfl) | (simp only [if_neg hc_5, if_pos hc_21])) J29
    · refine x_iconst (v := 1) dX6_isPoint_24 (by decide) ?_
      refine x_goto (tgt := 29) dX6_isPoint_25 (by decide) ?_
      exact x_ls rfl (by first | rfl | (rw [if_neg hc_5, if_neg hc_21] <;> rfl) | (simp only [if_neg hc_5, if_neg hc_21]; rfl) | (simp only [if_neg hc_5, if_neg hc_21])) J29
def FX6_endOf (I : xMi) (V : Nat → Nat → Int32) (v : Int32) (w : Int32) : Int32 := (if 0 ≤ (FX6_placeOf I V (1 : Int32) v) then (FX6_placeOf I V (1 : Int32) v) else w)
set_option maxHeartbeats 4000000 in
set_option maxRecDepth 100000 in
theorem kX6_endOf {G : xG} {l : Launch} {d : Nat} {h : xH} {Q : Option Value → xH → Prop} {A : Nat → Nat} {I : xMi} {V : Nat → Nat → Int32} {v : Int32} {w : Int32} (hM : xMod G A I V h) (hdv : ∀ ax, vp_in ax 2 → ¬ (2 : Int64) * FX6_span I V ax = 0)  (hQ : Q (some (.int (FX6_endOf I V v w))) h) : xV G l mX6_endOf (d + 4) 0 0 0 0 0 [.ref (A 0), .int v, .int w, xU] [] h Q := by
  refine x_aload_n dX6_endOf_0 rfl ?_
  refine x_iconst (v := 1) dX6_endOf_1 (by decide) ?_
  refine x_iload_n dX6_endOf_2 rfl ?_
  refine x_callV (M' := mX6_placeOf) (mc' := 0) (ms' := 0) (As := [.int (1 : Int32), .int v]) dX6_endOf_3 gX6_endOf_X6_placeOf okX6_placeOf rfl rfl hM.1 rfl (Nat.le_of_ble_eq_true rfl) (Nat.le_of_ble_eq_true rfl) (Nat.le_refl _) (Nat.le_refl _) (Nat.le_refl _) ?_
  refine kX6_placeOf hM ax1 (hdv _ ax1) ?_
  show xV _ _ _ _ _ _ _ _ _ _ _ _ _
  refine x_istore_n dX6_endOf_6 (by decide) rfl ?_
  refine x_iload_n dX6_endOf_7 rfl ?_
  have J16 : xV G l mX6_endOf (d + 4) 0 0 0 0 16 [.ref (A 0), .int v, .int w, .int (FX6_placeOf I V (1 : Int32) v)] [.int (if 0 ≤ (FX6_placeOf I V (1 : Int32) v) then (FX6_placeOf I V (1 : Int32) v) else w)] h Q := by
    exact x_iret dX6_endOf_16 rfl (xri (by unfold FX6_endOf; rfl) hQ)
  refine x_if_ge (tgt := 15) dX6_endOf_8 (by decide) (fun hc_8 => ?_) (fun hc_8 => ?_)
  · refine x_iload_n dX6_endOf_15 rfl ?_
    exact x_ls rfl (by first | rfl | (rw [if_pos hc_8] <;> rfl) | (simp only [if_pos hc_8]; rfl) | (simp only [if_pos hc_8])) J16
  · refine x_iload_n dX6_endOf_11 rfl ?_
    refine x_goto (tgt := 16) dX6_endOf_12 (by decide) ?_
    exact x_ls rfl (by first | rfl | (rw [if_neg hc_8] <;> rfl) | (simp only [if_neg hc_8]; rfl) | (simp only [if_neg hc_8])) J16
theorem mlbl_in {n : Int32} {j : Nat} (h : n ≤ 20) (hj : j < n.toNatClampNeg) : vp_in (nI j) 20 := by
  have hb := n.toInt_lt
  rw [Int32.le_iff_toInt_le] at h
  have e20 : (20 : Int32).toInt = 20 := rfl
  unfold Int32.toNatClampNeg at hj
  exact vp_in_nI (by omega) (by decide)
def LX6_labelAt (I : xMi) (V : Nat → Nat → Int32) (x y : Int32) : Nat → Nat → Int32
  | 0, j => (-1 : Int32)
  | n9 + 1, j => (if ((V 18) (Int32.toNatClampNeg (nI j))) = y then (if (FX6_in x ((V 17) (Int32.toNatClampNeg (nI j))) ((((V 17) (Int32.toNatClampNeg (nI j))) + ((V 19) (Int32.toNatClampNeg (nI j)))) - (1 : Int32))) = 0 then (LX6_labelAt I V x y n9 (j + 1) ) else (nI j)) else (LX6_labelAt I V x y n9 (j + 1) ))
def FX6_labelAt (I : xMi) (V : Nat → Nat → Int32) (x y : Int32) : Int32 := LX6_labelAt I V x y (I.2.2.2.1).toNatClampNeg 0 
set_option maxHeartbeats 4000000 in
set_option maxRecDepth 100000 in
theorem kX6_labelAt {G : xG} {l : Launch} {d : Nat} {h : xH} {Q : Option Value → xH → Prop} {A : Nat → Nat} {I : xMi} {V : Nat → Nat → Int32} {x y : Int32} (hM : xMod G A I V h) (hl20 : I.2.2.2.1 ≤ 20)  (hQ : Q (some (.int (FX6_labelAt I V x y))) h) : xV G l mX6_labelAt (d + 1) 0 0 0 0 0 [.ref (A 0), .int x, .int y, xU] [] h Q := by
  have hN31 : (I.2.2.2.1).toNatClampNeg < 2 ^ 31 := xclamp_lt _
  have loop : ∀ (n9 j : Nat), j + n9 = (I.2.2.2.1).toNatClampNeg → Q (some (.int (LX6_labelAt I V x y n9 j))) h → xV G l mX6_labelAt (d + 1) 0 0 0 0 2 [.ref (A 0), .int x, .int y, .int (nI j)] [] h Q := by
    intro n9
    induction n9 with
    | zero =>
      intro j hj hQ
      rw [LX6_labelAt] at hQ
      refine x_iload_n dX6_labelAt_2 rfl ?_
      refine x_aload_n dX6_labelAt_3 rfl ?_
      refine x_get 16 dX6_labelAt_4 hM.1 rfl (by decide) (by decide +kernel) rfl ?_
      refine x_icmp_ge (tgt := 56) dX6_labelAt_7 (by decide) (fun _ => ?_) (fun z9 => absurd (xge_b (by omega) (by omega)) z9)
      refine x_iconst (v := (-1)) dX6_labelAt_56 (by decide) ?_
      exact x_iret dX6_labelAt_57 rfl hQ
    | succ n9 ih =>
      intro j hj hQ
      rw [LX6_labelAt] at hQ
      refine x_iload_n dX6_labelAt_2 rfl ?_
      refine x_aload_n dX6_labelAt_3 rfl ?_
      refine x_get 16 dX6_labelAt_4 hM.1 rfl (by decide) (by decide +kernel) rfl ?_
      refine x_icmp_ge (tgt := 56) dX6_labelAt_7 (by decide) (fun z9 => absurd z9 (xlt_b (by omega))) (fun _ => ?_)
      refine x_aload_n dX6_labelAt_10 rfl ?_
      refine x_get 18 dX6_labelAt_11 hM.1 rfl (by decide) (by decide +kernel) rfl ?_
      refine x_iload_n dX6_labelAt_14 rfl ?_
      refine x_iald dX6_labelAt_15 (hM.r 18 (by decide) (by decide)) (mlbl_in hl20 (by omega)) ?_
      refine x_iload_n dX6_labelAt_16 rfl ?_
      refine x_icmp_ne (tgt := 50) dX6_labelAt_17 (by decide) (fun hc_17 => ?_) (fun hc_17 => ?_)
      · refine x_iinc (v := 1) dX6_labelAt_50 rfl (by decide) (by decide) rfl ?_
        refine x_goto (tgt := 2) dX6_labelAt_53 (by decide) ?_
        refine xV.sub (L' := [.ref (A 0), .int x, .int y, .int (nI (j + 1))]) ⟨Or.inr rfl, Or.inr rfl, Or.inr rfl, Or.inr (congrArg Value.int (nI_1 j)), trivial⟩ (ih (j + 1)  (by omega)  (by rw [if_neg hc_17] at hQ; exact hQ))
      · refine x_iload_n dX6_labelAt_20 rfl ?_
        refine x_aload_n dX6_labelAt_21 rfl ?_
        refine x_get 17 dX6_labelAt_22 hM.1 rfl (by decide) (by decide +kernel) rfl ?_
        refine x_iload_n dX6_labelAt_25 rfl ?_
        refine x_iald dX6_labelAt_26 (hM.r 17 (by decide) (by decide)) (mlbl_in hl20 (by omega)) ?_
        refine x_aload_n dX6_labelAt_27 rfl ?_
        refine x_get 17 dX6_labelAt_28 hM.1 rfl (by decide) (by decide +kernel) rfl ?_
        refine x_iload_n dX6_labelAt_31 rfl ?_
        refine x_iald dX6_labelAt_32 (hM.r 17 (by decide) (by decide)) (mlbl_in hl20 (by omega)) ?_
        refine x_aload_n dX6_labelAt_33 rfl ?_
        refine x_get 19 dX6_labelAt_34 hM.1 rfl (by decide) (by decide +kernel) rfl ?_
        refine x_iload_n dX6_labelAt_37 rfl ?_
        refine x_iald dX6_labelAt_38 (hM.r 19 (by decide) (by decide)) (mlbl_in hl20 (by omega)) ?_
        refine x_iadd dX6_labelAt_39 ?_
        refine x_iconst (v := 1) dX6_labelAt_40 (by decide) ?_
        refine x_isub dX6_labelAt_41 ?_
        refine x_callS (M' := mX6_in) (mc' := 0) (ms' := 0) (As := [.int x, .int ((V 17) (Int32.toNatClampNeg (nI j))), .int ((((V 17) (Int32.toNatClampNeg (nI j))) + ((V 19) (Int32.toNatClampNeg (nI j)))) - (1 : Int32))]) dX6_labelAt_42 gX6_labelAt_X6_in okX6_in rfl rfl (Nat.le_of_ble_eq_true rfl) (Nat.le_of_ble_eq_true rfl) (Nat.le_refl _) (Nat.le_refl _) (Nat.le_refl _) ?_
        refine kX6_in  ?_
        show xV _ _ _ _ _ _ _ _ _ _ _ _ _
        refine x_if_eq (tgt := 50) dX6_labelAt_45 (by decide) (fun hc_45 => ?_) (fun hc_45 => ?_)
        · refine x_iinc (v := 1) dX6_labelAt_50 rfl (by decide) (by decide) rfl ?_
          refine x_goto (tgt := 2) dX6_labelAt_53 (by decide) ?_
          refine xV.sub (L' := [.ref (A 0), .int x, .int y, .int (nI (j + 1))]) ⟨Or.inr rfl, Or.inr rfl, Or.inr rfl, Or.inr (congrArg Value.int (nI_1 j)), trivial⟩ (ih (j + 1)  (by omega)  (by rw [if_pos hc_17, if_pos hc_45] at hQ; exact hQ))
        · refine x_iload_n dX6_labelAt_48 rfl ?_
          exact x_iret dX6_labelAt_49 rfl (by rw [if_pos hc_17, if_neg hc_45] at hQ; exact hQ)
  refine x_iconst (v := 0) dX6_labelAt_0 (by decide) ?_
  refine x_istore_n dX6_labelAt_1 (by decide) rfl ?_
  refine xV.sub (L' := [.ref (A 0), .int x, .int y, .int (nI 0)]) ⟨Or.inr rfl, Or.inr rfl, Or.inr rfl, Or.inr (congrArg Value.int nI_0.symm), trivial⟩ (loop (I.2.2.2.1).toNatClampNeg 0  (by omega)  hQ)
theorem ml_in {n : Int32} {j : Nat} (h : n.toInt ≤ 6) (hj : j < n.toNatClampNeg) : vp_in (nI j) 6 := by
  have hb := n.toInt_lt
  unfold Int32.toNatClampNeg at hj
  exact vp_in_nI (by omega) (by decide)
theorem md_in {n q : Int32} {j : Nat} (h : n.toInt ≤ 6) (hj : j < n.toNatClampNeg) (hq : vp_in q 640) : vp_in ((640 * nI j) + q) 3840 := by
  have hb := n.toInt_lt
  obtain ⟨k, hk, rfl⟩ := vp_in_of hq (by decide)
  unfold Int32.toNatClampNeg at hj
  rw [show (640 : Int32) = nI 640 from rfl, pk_mul, nI_add]
  exact vp_in_nI (by omega) (by decide)
def LX6_latest (I : xMi) (V : Nat → Nat → Int32) (q ah : Int32) : Nat → Nat → Int32 → Int32
  | 0, j, bs => bs
  | n9 + 1, j, bs => (LX6_latest I V q ah n9 (j + 1) (if ((V 24) (Int32.toNatClampNeg (((640 : Int32) * (nI j)) + q))) = 0 then bs else (if (if ah < 0 then (1 : Int32) else (if ((V 9) (Int32.toNatClampNeg (nI j))) < ((V 9) (Int32.toNatClampNeg ah)) then (1 : Int32) else (if ((V 9) (Int32.toNatClampNeg (nI j))) = ((V 9) (Int32.toNatClampNeg ah)) then (if ah ≤ (nI j) then (0 : Int32) else (1 : Int32)) else (0 : Int32)))) = 0 then bs else (if bs < 0 then (nI j) else (if ((V 9) (Int32.toNatClampNeg (nI j))) < ((V 9) (Int32.toNatClampNeg bs)) then bs else (nI j))))))
def FX6_latest (I : xMi) (V : Nat → Nat → Int32) (q ah : Int32) : Int32 := LX6_latest I V q ah (I.2.2.1).toNatClampNeg 0 (-1 : Int32)
set_option maxHeartbeats 4000000 in
set_option maxRecDepth 100000 in
theorem kX6_latest {G : xG} {l : Launch} {d : Nat} {h : xH} {Q : Option Value → xH → Prop} {A : Nat → Nat} {I : xMi} {V : Nat → Nat → Int32} {q ah : Int32} (hM : xMod G A I V h) (h6 : I.2.2.1.toInt ≤ 6) (hq : vp_in q 640) (hah : ¬ ah < 0 → vp_in ah 6)  (hQ : Q (some (.int (FX6_latest I V q ah))) h) : xV G l mX6_latest d 0 0 0 0 0 [.ref (A 0), .int q, .int ah, xU, xU, xU] [] h Q := by
  have hN31 : (I.2.2.1).toNatClampNeg < 2 ^ 31 := xclamp_lt _
  have loop : ∀ (n9 j : Nat) (bs : Int32), j + n9 = (I.2.2.1).toNatClampNeg → (¬ bs < 0 → vp_in bs 6) → Q (some (.int (LX6_latest I V q ah n9 j bs))) h → xV G l mX6_latest d 0 0 0 0 5 [.ref (A 0), .int q, .int ah, .int bs, .int (nI j), xU] [] h Q := by
    intro n9
    induction n9 with
    | zero =>
      intro j bs hj hv hQ
      rw [LX6_latest] at hQ
      refine x_iload dX6_latest_5 rfl ?_
      refine x_aload_n dX6_latest_7 rfl ?_
      refine x_get 7 dX6_latest_8 hM.1 rfl (by decide) (by decide +kernel) rfl ?_
      refine x_icmp_ge (tgt := 113) dX6_latest_11 (by decide) (fun _ => ?_) (fun z9 => absurd (xge_b (by omega) (by omega)) z9)
      refine x_iload_n dX6_latest_113 rfl ?_
      exact x_iret dX6_latest_114 rfl hQ
    | succ n9 ih =>
      intro j bs hj hv hQ
      rw [LX6_latest] at hQ
      refine x_iload dX6_latest_5 rfl ?_
      refine x_aload_n dX6_latest_7 rfl ?_
      refine x_get 7 dX6_latest_8 hM.1 rfl (by decide) (by decide +kernel) rfl ?_
      refine x_icmp_ge (tgt := 113) dX6_latest_11 (by decide) (fun z9 => absurd z9 (xlt_b (by omega))) (fun _ => ?_)
      refine x_iload_n dX6_latest_14 rfl ?_
      have J61 : xV G l mX6_latest d 0 0 0 0 61 [.ref (A 0), .int q, .int ah, .int bs, .int (nI j), xU] [.int (if ah < 0 then (1 : Int32) else (if ((V 9) (Int32.toNatClampNeg (nI j))) < ((V 9) (Int32.toNatClampNeg ah)) then (1 : Int32) else (if ((V 9) (Int32.toNatClampNeg (nI j))) = ((V 9) (Int32.toNatClampNeg ah)) then (if ah ≤ (nI j) then (0 : Int32) else (1 : Int32)) else (0 : Int32))))] h Q := by
        refine x_istore dX6_latest_61 (by decide) rfl ?_
        refine x_aload_n dX6_latest_63 rfl ?_
        refine x_get 24 dX6_latest_64 hM.1 rfl (by decide) (by decide +kernel) rfl ?_
        refine x_sipush (v := 640) dX6_latest_67 (by decide) ?_
        refine x_iload dX6_latest_70 rfl ?_
        refine x_imul dX6_latest_72 ?_
        refine x_iload_n dX6_latest_73 rfl ?_
        refine x_iadd dX6_latest_74 ?_
        refine x_iald dX6_latest_75 (hM.r 24 (by decide) (by decide)) (md_in h6 (by omega) hq) ?_
        have J107 : xV G l mX6_latest d 0 0 0 0 107 [.ref (A 0), .int q, .int ah, .int (if ((V 24) (Int32.toNatClampNeg (((640 : Int32) * (nI j)) + q))) = 0 then bs else (if (if ah < 0 then (1 : Int32) else (if ((V 9) (Int32.toNatClampNeg (nI j))) < ((V 9) (Int32.toNatClampNeg ah)) then (1 : Int32) else (if ((V 9) (Int32.toNatClampNeg (nI j))) = ((V 9) (Int32.toNatClampNeg ah)) then (if ah ≤ (nI j) then (0 : Int32) else (1 : Int32)) else (0 : Int32)))) = 0 then bs else (if bs < 0 then (nI j) else (if ((V 9) (Int32.toNatClampNeg (nI j))) < ((V 9) (Int32.toNatClampNeg bs)) then bs else (nI j))))), .int (nI j), .int (if ah < 0 then (1 : Int32) else (if ((V 9) (Int32.toNatClampNeg (nI j))) < ((V 9) (Int32.toNatClampNeg ah)) then (1 : Int32) else (if ((V 9) (Int32.toNatClampNeg (nI j))) = ((V 9) (Int32.toNatClampNeg ah)) then (if ah ≤ (nI j) then (0 : Int32) else (1 : Int32)) else (0 : Int32))))] [] h Q := by
          refine x_iinc (v := 1) dX6_latest_107 rfl (by decide) (by decide) rfl ?_
          refine x_goto (tgt := 5) dX6_latest_110 (by decide) ?_
          refine xV.sub (L' := [.ref (A 0), .int q, .int ah, .int (if ((V 24) (Int32.toNatClampNeg (((640 : Int32) * (nI j)) + q))) = 0 then bs else (if (if ah < 0 then (1 : Int32) else (if ((V 9) (Int32.toNatClampNeg (nI j))) < ((V 9) (Int32.toNatClampNeg ah)) then (1 : Int32) else (if ((V 9) (Int32.toNatClampNeg (nI j))) = ((V 9) (Int32.toNatClampNeg ah)) then (if ah ≤ (nI j) then (0 : Int32) else (1 : Int32)) else (0 : Int32)))) = 0 then bs else (if bs < 0 then (nI j) else (if ((V 9) (Int32.toNatClampNeg (nI j))) < ((V 9) (Int32.toNatClampNeg bs)) then bs else (nI j))))), .int (nI (j + 1)), xU]) ⟨Or.inr rfl, Or.inr rfl, Or.inr rfl, Or.inr rfl, Or.inr (congrArg Value.int (nI_1 j)), Or.inl rfl, trivial⟩ (ih (j + 1) (if ((V 24) (Int32.toNatClampNeg (((640 : Int32) * (nI j)) + q))) = 0 then bs else (if (if ah < 0 then (1 : Int32) else (if ((V 9) (Int32.toNatClampNeg (nI j))) < ((V 9) (Int32.toNatClampNeg ah)) then (1 : Int32) else (if ((V 9) (Int32.toNatClampNeg (nI j))) = ((V 9) (Int32.toNatClampNeg ah)) then (if ah ≤ (nI j) then (0 : Int32) else (1 : Int32)) else (0 : Int32)))) = 0 then bs else (if bs < 0 then (nI j) else (if ((V 9) (Int32.toNatClampNeg (nI j))) < ((V 9) (Int32.toNatClampNeg bs)) then bs else (nI j))))) (by omega) (by repeat' (first | with_reducible exact hv | with_reducible exact (fun _ => ml_in h6 (by omega)) | split)) hQ)
        refine x_if_eq (tgt := 107) dX6_latest_76 (by decide) (fun hc_76 => ?_) (fun hc_76 => ?_)
        · exact x_ls (by first | rfl | (rw [if_pos hc_76] <;> rfl) | (simp only [if_pos hc_76]; rfl) | (simp only [if_pos hc_76])) rfl J107
        · refine x_iload dX6_latest_79 rfl ?_
          refine x_if_eq (tgt := 107) dX6_latest_81 (by decide) (fun hc_81 => ?_) (fun hc_81 => ?_)
          · exact x_ls (by first | rfl | (rw [if_neg hc_76, if_pos hc_81] <;> rfl) | (simp only [if_neg hc_76, if_pos hc_81]; rfl) | (simp only [if_neg hc_76, if_pos hc_81])) rfl J107
          · refine x_iload_n dX6_latest_84 rfl ?_
            refine x_if_lt (tgt := 104) dX6_latest_85 (by decide) (fun hc_85 => ?_) (fun hc_85 => ?_)
            · refine x_iload dX6_latest_104 rfl ?_
              refine x_istore_n dX6_latest_106 (by decide) rfl ?_
              exact x_ls (by first | rfl | (rw [if_neg hc_76, if_neg hc_81, if_pos hc_85] <;> rfl) | (simp only [if_neg hc_76, if_neg hc_81, if_pos hc_85]; rfl) | (simp only [if_neg hc_76, if_neg hc_81, if_pos hc_85])) rfl J107
            · refine x_aload_n dX6_latest_88 rfl ?_
              refine x_get 9 dX6_latest_89 hM.1 rfl (by decide) (by decide +kernel) rfl ?_
              refine x_iload dX6_latest_92 rfl ?_
              refine x_iald dX6_latest_94 (hM.r 9 (by decide) (by decide)) (ml_in h6 (by omega)) ?_
              refine x_aload_n dX6_latest_95 rfl ?_
              refine x_get 9 dX6_latest_96 hM.1 rfl (by decide) (by decide +kernel) rfl ?_
              refine x_iload_n dX6_latest_99 rfl ?_
              refine x_iald dX6_latest_100 (hM.r 9 (by decide) (by decide)) (hv hc_85) ?_
              refine x_icmp_lt (tgt := 107) dX6_latest_101 (by decide) (fun hc_101 => ?_) (fun hc_101 => ?_)
              · exact x_ls (by first | rfl | (rw [if_neg hc_76, if_neg hc_81, if_neg hc_85, if_pos hc_101] <;> rfl) | (simp only [if_neg hc_76, if_neg hc_81, if_neg hc_85, if_pos hc_101]; rfl) | (simp only [if_neg hc_76, if_neg hc_81, if_neg hc_85, if_pos hc_101])) rfl J107
              · refine x_iload dX6_latest_104 rfl ?_
                refine x_istore_n dX6_latest_106 (by decide) rfl ?_
                exact x_ls (by first | rfl | (rw [if_neg hc_76, if_neg hc_81, if_neg hc_85, if_neg hc_101] <;> rfl) | (simp only [if_neg hc_76, if_neg hc_81, if_neg hc_85, if_neg hc_101]; rfl) | (simp only [if_neg hc_76, if_neg hc_81, if_neg hc_85, if_neg hc_101])) rfl J107
      refine x_if_lt (tgt := 56) dX6_latest_15 (by decide) (fun hc_15 => ?_) (fun hc_15 => ?_)
      · refine x_iconst (v := 1) dX6_latest_56 (by decide) ?_
        refine x_goto (tgt := 61) dX6_latest_57 (by decide) ?_
        exact x_ls rfl (by first | rfl | (rw [if_pos hc_15] <;> rfl) | (simp only [if_pos hc_15]; rfl) | (simp only [if_pos hc_15])) J61
      · refine x_aload_n dX6_latest_18 rfl ?_
        refine x_get 9 dX6_latest_19 hM.1 rfl (by decide) (by decide +kernel) rfl ?_
        refine x_iload dX6_latest_22 rfl ?_
        refine x_iald dX6_latest_24 (hM.r 9 (by decide) (by decide)) (ml_in h6 (by omega)) ?_
        refine x_aload_n dX6_latest_25 rfl ?_
        refine x_get 9 dX6_latest_26 hM.1 rfl (by decide) (by decide +kernel) rfl ?_
        refine x_iload_n dX6_latest_29 rfl ?_
        refine x_iald dX6_latest_30 (hM.r 9 (by decide) (by decide)) (hah hc_15) ?_
        refine x_icmp_lt (tgt := 56) dX6_latest_31 (by decide) (fun hc_31 => ?_) (fun hc_31 => ?_)
        · refine x_iconst (v := 1) dX6_latest_56 (by decide) ?_
          refine x_goto (tgt := 61) dX6_latest_57 (by decide) ?_
          exact x_ls rfl (by first | rfl | (rw [if_neg hc_15, if_pos hc_31] <;> rfl) | (simp only [if_neg hc_15, if_pos hc_31]; rfl) | (simp only [if_neg hc_15, if_pos hc_31])) J61
        · refine x_aload_n dX6_latest_34 rfl ?_
          refine x_get 9 dX6_latest_35 hM.1 rfl (by decide) (by decide +kernel) rfl ?_
          refine x_iload dX6_latest_38 rfl ?_
          refine x_iald dX6_latest_40 (hM.r 9 (by decide) (by decide)) (ml_in h6 (by omega)) ?_
          refine x_aload_n dX6_latest_41 rfl ?_
          refine x_get 9 dX6_latest_42 hM.1 rfl (by decide) (by decide +kernel) rfl ?_
          refine x_iload_n dX6_latest_45 rfl ?_
          refine x_iald dX6_latest_46 (hM.r 9 (by decide) (by decide)) (hah hc_15) ?_
          refine x_icmp_ne (tgt := 60) dX6_latest_47 (by decide) (fun hc_47 => ?_) (fun hc_47 => ?_)
          · refine x_iconst (v := 0) dX6_latest_60 (by decide) ?_
            exact x_ls rfl (by first | rfl | (rw [if_neg hc_15, if_neg hc_31, if_neg hc_47] <;> rfl) | (simp only [if_neg hc_15, if_neg hc_31, if_neg hc_47]; rfl) | (simp only [if_neg hc_15, if_neg hc_31, if_neg hc_47])) J61
          · refine x_iload dX6_latest_50 rfl ?_
            refine x_iload_n dX6_latest_52 rfl ?_
            refine x_icmp_ge (tgt := 60) dX6_latest_53 (by decide) (fun hc_53 => ?_) (fun hc_53 => ?_)
            · refine x_iconst (v := 0) dX6_latest_60 (by decide) ?_
              exact x_ls rfl (by first | rfl | (rw [if_neg hc_15, if_neg hc_31, if_pos hc_47, if_pos hc_53] <;> rfl) | (simp only [if_neg hc_15, if_neg hc_31, if_pos hc_47, if_pos hc_53]; rfl) | (simp only [if_neg hc_15, if_neg hc_31, if_pos hc_47, if_pos hc_53])) J61
            · refine x_iconst (v := 1) dX6_latest_56 (by decide) ?_
              refine x_goto (tgt := 61) dX6_latest_57 (by decide) ?_
              exact x_ls rfl (by first | rfl | (rw [if_neg hc_15, if_neg hc_31, if_pos hc_47, if_neg hc_53] <;> rfl) | (simp only [if_neg hc_15, if_neg hc_31, if_pos hc_47, if_neg hc_53]; rfl) | (simp only [if_neg hc_15, if_neg hc_31, if_pos hc_47, if_neg hc_53])) J61
  refine x_iconst (v := (-1)) dX6_latest_0 (by decide) ?_
  refine x_istore_n dX6_latest_1 (by decide) rfl ?_
  refine x_iconst (v := 0) dX6_latest_2 (by decide) ?_
  refine x_istore dX6_latest_3 (by decide) rfl ?_
  refine xV.sub (L' := [.ref (A 0), .int q, .int ah, .int (-1 : Int32), .int (nI 0), xU]) ⟨Or.inr rfl, Or.inr rfl, Or.inr rfl, Or.inr rfl, Or.inr (congrArg Value.int nI_0.symm), Or.inl rfl, trivial⟩ (loop (I.2.2.1).toNatClampNeg 0 (-1 : Int32) (by omega) (fun z => absurd (by decide) z) hQ)
