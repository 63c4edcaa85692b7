theorem xax (ax : Int32) : ax = 0 ∨ ax = 1 ∨ (¬ ax = 0 ∧ ¬ ax = 1) := by
  by_cases h0 : ax = 0
  · exact Or.inl h0
  · by_cases h1 : ax = 1
    · exact Or.inr (Or.inl h1)
    · exact Or.inr (Or.inr ⟨h0, h1⟩)
theorem ne01 {ax : Int32} (h : ax = 1) : ¬ ax = 0 := by rw [h]; decide
def FX5_place (p : xPv) (n : Int32) (U : Nat → Nat → Int32) (N : Nat) (I : Nat → xSi) (V : Nat → Nat → Nat → Int32) (ax v : Int32) : Int32 := (if ax = 0 then (FX2_placeOf p.2.2.1 v) else (if ax = 1 then (FX2_placeOf p.2.2.2 v) else (-1 : Int32)))
set_option maxHeartbeats 4000000 in
set_option maxRecDepth 100000 in
theorem kX5_place {G : xG} {l : Launch} {d : Nat} {h : xH} {Q : Option Value → xH → Prop} {sc pg sx sy al ed : Nat} {C : Nat → Nat} {B : Nat → Nat → Nat} {p : xPv} {n : Int32} {U : Nat → Nat → Int32} {md : Int32} {N : Nat} {I : Nat → xSi} {V : Nat → Nat → Nat → Int32} {ax v : Int32}  (hK : xCls G sc pg sx sy al ed C B p n U md N I V h)   (hQ : Q (some (.int (FX5_place p n U N I V ax v))) h) : xV G l mX5_place (d + 2) 0 0 0 0 0 [.ref sc, .int ax, .int v, xU] [] h Q := by
  refine x_aload_n dX5_place_0 rfl ?_
  refine x_get 0 dX5_place_1 hK.1 rfl (by decide) (by decide +kernel) rfl ?_
  refine x_iload_n dX5_place_4 rfl ?_
  refine x_callV (M' := mX1_scaleOf) (mc' := 0) (ms' := 0) (As := [.int ax]) dX5_place_5 gX5_place_X1_scaleOf okX1_scaleOf rfl rfl hK.2.1.1 rfl (Nat.le_of_ble_eq_true rfl) (Nat.le_of_ble_eq_true rfl) (Nat.le_refl _) (Nat.le_refl _) (Nat.le_refl _) ?_
  refine kX1_scaleOf hK.2.1 ?_
  rcases xax ax with hx0 | hx1 | ⟨hx0, hx1⟩
  · rw [if_pos hx0]
    show xV _ _ _ _ _ _ _ _ _ _ _ _ _
    refine x_astore_n dX5_place_8 (by decide) rfl ?_
    refine x_aload_n dX5_place_9 rfl ?_
    refine x_ifnonnull (tgt := 17) dX5_place_10 (by decide) ?_
    refine x_aload_n dX5_place_17 rfl ?_
    refine x_iload_n dX5_place_18 rfl ?_
    refine x_callV (M' := mX2_placeOf) (mc' := 0) (ms' := 0) (As := [.int v]) dX5_place_19 gX5_place_X2_placeOf okX2_placeOf rfl rfl hK.2.1.2.1 rfl (Nat.le_of_ble_eq_true rfl) (Nat.le_of_ble_eq_true rfl) (Nat.le_refl _) (Nat.le_refl _) (Nat.le_refl _) ?_
    refine kX2_placeOf hK.2.1.2.1 ?_
    show xV _ _ _ _ _ _ _ _ _ _ _ _ _
    exact x_iret dX5_place_22 rfl (xri (by unfold FX5_place; rw [if_pos hx0]) hQ)
  · have hx0 := ne01 hx1
    rw [if_neg hx0, if_pos hx1]
    show xV _ _ _ _ _ _ _ _ _ _ _ _ _
    refine x_astore_n dX5_place_8 (by decide) rfl ?_
    refine x_aload_n dX5_place_9 rfl ?_
    refine x_ifnonnull (tgt := 17) dX5_place_10 (by decide) ?_
    refine x_aload_n dX5_place_17 rfl ?_
    refine x_iload_n dX5_place_18 rfl ?_
    refine x_callV (M' := mX2_placeOf) (mc' := 0) (ms' := 0) (As := [.int v]) dX5_place_19 gX5_place_X2_placeOf okX2_placeOf rfl rfl hK.2.1.2.2 rfl (Nat.le_of_ble_eq_true rfl) (Nat.le_of_ble_eq_true rfl) (Nat.le_refl _) (Nat.le_refl _) (Nat.le_refl _) ?_
    refine kX2_placeOf hK.2.1.2.2 ?_
    show xV _ _ _ _ _ _ _ _ _ _ _ _ _
    exact x_iret dX5_place_22 rfl (xri (by unfold FX5_place; rw [if_neg hx0, if_pos hx1]) hQ)
  · rw [if_neg hx0, if_neg hx1]
    show xV _ _ _ _ _ _ _ _ _ _ _ _ _
    refine x_astore_nN dX5_place_8 (by decide) rfl ?_
    refine x_aload_nN dX5_place_9 rfl ?_
    refine x_ifnonnullN dX5_place_10 ?_
    refine x_iconst (v := (-1)) dX5_place_13 (by decide) ?_
    refine x_goto (tgt := 22) dX5_place_14 (by decide) ?_
    exact x_iret dX5_place_22 rfl (xri (by unfold FX5_place; rw [if_neg hx0, if_neg hx1]) hQ)
def FX5_value (p : xPv) (n : Int32) (U : Nat → Nat → Int32) (N : Nat) (I : Nat → xSi) (V : Nat → Nat → Nat → Int32) (ax v : Int32) : Int32 := (if ax = 0 then (FX2_leastValueAt p.2.2.1 v) else (if ax = 1 then (FX2_leastValueAt p.2.2.2 v) else (-2000000000 : Int32)))
set_option maxHeartbeats 4000000 in
set_option maxRecDepth 100000 in
theorem kX5_value {G : xG} {l : Launch} {d : Nat} {h : xH} {Q : Option Value → xH → Prop} {sc pg sx sy al ed : Nat} {C : Nat → Nat} {B : Nat → Nat → Nat} {p : xPv} {n : Int32} {U : Nat → Nat → Int32} {md : Int32} {N : Nat} {I : Nat → xSi} {V : Nat → Nat → Nat → Int32} {ax v : Int32}  (hK : xCls G sc pg sx sy al ed C B p n U md N I V h) (hfd : ∀ S : xS, (S = p.2.2.1 ∨ S = p.2.2.2) → ¬ S.2.2.2.2.2 < 2 → ¬ 2 * (S.2.2.2.2.2 - 1) = 0)  (hQ : Q (some (.int (FX5_value p n U N I V ax v))) h) : xV G l mX5_value (d + 3) 0 0 0 0 0 [.ref sc, .int ax, .int v, xU] [] h Q := by
  refine x_aload_n dX5_value_0 rfl ?_
  refine x_get 0 dX5_value_1 hK.1 rfl (by decide) (by decide +kernel) rfl ?_
  refine x_iload_n dX5_value_4 rfl ?_
  refine x_callV (M' := mX1_scaleOf) (mc' := 0) (ms' := 0) (As := [.int ax]) dX5_value_5 gX5_value_X1_scaleOf okX1_scaleOf rfl rfl hK.2.1.1 rfl (Nat.le_of_ble_eq_true rfl) (Nat.le_of_ble_eq_true rfl) (Nat.le_refl _) (Nat.le_refl _) (Nat.le_refl _) ?_
  refine kX1_scaleOf hK.2.1 ?_
  rcases xax ax with hx0 | hx1 | ⟨hx0, hx1⟩
  · rw [if_pos hx0]
    show xV _ _ _ _ _ _ _ _ _ _ _ _ _
    refine x_astore_n dX5_value_8 (by decide) rfl ?_
    refine x_aload_n dX5_value_9 rfl ?_
    refine x_ifnonnull (tgt := 18) dX5_value_10 (by decide) ?_
    refine x_aload_n dX5_value_18 rfl ?_
    refine x_iload_n dX5_value_19 rfl ?_
    refine x_callV (M' := mX2_leastValueAt) (mc' := 0) (ms' := 0) (As := [.int v]) dX5_value_20 gX5_value_X2_leastValueAt okX2_leastValueAt rfl rfl hK.2.1.2.1 rfl (Nat.le_of_ble_eq_true rfl) (Nat.le_of_ble_eq_true rfl) (Nat.le_refl _) (Nat.le_refl _) (Nat.le_refl _) ?_
    refine kX2_leastValueAt hK.2.1.2.1 (hfd _ (Or.inl rfl)) ?_
    show xV _ _ _ _ _ _ _ _ _ _ _ _ _
    exact x_iret dX5_value_23 rfl (xri (by unfold FX5_value; rw [if_pos hx0]) hQ)
  · have hx0 := ne01 hx1
    rw [if_neg hx0, if_pos hx1]
    show xV _ _ _ _ _ _ _ _ _ _ _ _ _
    refine x_astore_n dX5_value_8 (by decide) rfl ?_
    refine x_aload_n dX5_value_9 rfl ?_
    refine x_ifnonnull (tgt := 18) dX5_value_10 (by decide) ?_
    refine x_aload_n dX5_value_18 rfl ?_
    refine x_iload_n dX5_value_19 rfl ?_
    refine x_callV (M' := mX2_leastValueAt) (mc' := 0) (ms' := 0) (As := [.int v]) dX5_value_20 gX5_value_X2_leastValueAt okX2_leastValueAt rfl rfl hK.2.1.2.2 rfl (Nat.le_of_ble_eq_true rfl) (Nat.le_of_ble_eq_true rfl) (Nat.le_refl _) (Nat.le_refl _) (Nat.le_refl _) ?_
    refine kX2_leastValueAt hK.2.1.2.2 (hfd _ (Or.inr rfl)) ?_
    show xV _ _ _ _ _ _ _ _ _ _ _ _ _
    exact x_iret dX5_value_23 rfl (xri (by unfold FX5_value; rw [if_neg hx0, if_pos hx1]) hQ)
  · rw [if_neg hx0, if_neg hx1]
    show xV _ _ _ _ _ _ _ _ _ _ _ _ _
    refine x_astore_nN dX5_value_8 (by decide) rfl ?_
    refine x_aload_nN dX5_value_9 rfl ?_
    refine x_ifnonnullN dX5_value_10 ?_
    refine x_ldc (v := (-2000000000)) dX5_value_13 (by decide +kernel) ?_
    refine x_goto (tgt := 23) dX5_value_15 (by decide) ?_
    exact x_iret dX5_value_23 rfl (xri (by unfold FX5_value; rw [if_neg hx0, if_neg hx1]) hQ)
def FX5_step (p : xPv) (n : Int32) (U : Nat → Nat → Int32) (N : Nat) (I : Nat → xSi) (V : Nat → Nat → Nat → Int32) (ax m : Int32) : Int32 := (if ax = 0 then (if (FX5_within m (2 : Int32) (20 : Int32)) = 0 then (-1 : Int32) else (FX2_stepFor p.2.2.1 m)) else (if ax = 1 then (if (FX5_within m (2 : Int32) (20 : Int32)) = 0 then (-1 : Int32) else (FX2_stepFor p.2.2.2 m)) else (-1 : Int32)))
set_option maxHeartbeats 4000000 in
set_option maxRecDepth 100000 in
theorem kX5_step {G : xG} {l : Launch} {d : Nat} {h : xH} {Q : Option Value → xH → Prop} {sc pg sx sy al ed : Nat} {C : Nat → Nat} {B : Nat → Nat → Nat} {p : xPv} {n : Int32} {U : Nat → Nat → Int32} {md : Int32} {N : Nat} {I : Nat → xSi} {V : Nat → Nat → Nat → Int32} {ax m : Int32}  (hK : xCls G sc pg sx sy al ed C B p n U md N I V h)   (hQ : Q (some (.int (FX5_step p n U N I V ax m))) h) : xV G l mX5_step (d + 4) 0 0 0 0 0 [.ref sc, .int ax, .int m, xU] [] h Q := by
  refine x_aload_n dX5_step_0 rfl ?_
  refine x_get 0 dX5_step_1 hK.1 rfl (by decide) (by decide +kernel) rfl ?_
  refine x_iload_n dX5_step_4 rfl ?_
  refine x_callV (M' := mX1_scaleOf) (mc' := 0) (ms' := 0) (As := [.int ax]) dX5_step_5 gX5_step_X1_scaleOf okX1_scaleOf rfl rfl hK.2.1.1 rfl (Nat.le_of_ble_eq_true rfl) (Nat.le_of_ble_eq_true rfl) (Nat.le_refl _) (Nat.le_refl _) (Nat.le_refl _) ?_
  refine kX1_scaleOf hK.2.1 ?_
  rcases xax ax with hx0 | hx1 | ⟨hx0, hx1⟩
  · rw [if_pos hx0]
    show xV _ _ _ _ _ _ _ _ _ _ _ _ _
    refine x_astore_n dX5_step_8 (by decide) rfl ?_
    refine x_aload_n dX5_step_9 rfl ?_
    refine x_ifnull dX5_step_10 ?_
    refine x_iload_n dX5_step_13 rfl ?_
    refine x_iconst (v := 2) dX5_step_14 (by decide) ?_
    refine x_bipush (v := 20) dX5_step_15 (by decide) ?_
    refine x_callS (M' := mX5_within) (mc' := 0) (ms' := 0) (As := [.int m, .int (2 : Int32), .int (20 : Int32)]) dX5_step_17 gX5_step_X5_within okX5_within rfl rfl (Nat.le_of_ble_eq_true rfl) (Nat.le_of_ble_eq_true rfl) (Nat.le_refl _) (Nat.le_refl _) (Nat.le_refl _) ?_
    refine kX5_within  ?_
    show xV _ _ _ _ _ _ _ _ _ _ _ _ _
    have J32 : xV G l mX5_step (d + 4) 0 0 0 0 32 [.ref sc, .int ax, .int m, .ref sx] [.int (if (FX5_within m (2 : Int32) (20 : Int32)) = 0 then (-1 : Int32) else (FX2_stepFor p.2.2.1 m))] h Q := by
      exact x_iret dX5_step_32 rfl (xri (by unfold FX5_step; rw [if_pos hx0]) hQ)
    refine x_if_ne (tgt := 27) dX5_step_20 (by decide) (fun hc_20 => ?_) (fun hc_20 => ?_)
    · refine x_aload_n dX5_step_27 rfl ?_
      refine x_iload_n dX5_step_28 rfl ?_
      refine x_callV (M' := mX2_stepFor) (mc' := 0) (ms' := 0) (As := [.int m]) dX5_step_29 gX5_step_X2_stepFor okX2_stepFor rfl rfl hK.2.1.2.1 rfl (Nat.le_of_ble_eq_true rfl) (Nat.le_of_ble_eq_true rfl) (Nat.le_refl _) (Nat.le_refl _) (Nat.le_refl _) ?_
      refine kX2_stepFor hK.2.1.2.1 ?_
      show xV _ _ _ _ _ _ _ _ _ _ _ _ _
      exact x_ls rfl (by first | rfl | (rw [if_neg hc_20] <;> rfl) | (simp only [if_neg hc_20]; rfl) | (simp only [if_neg hc_20])) J32
    · refine x_iconst (v := (-1)) dX5_step_23 (by decide) ?_
      refine x_goto (tgt := 32) dX5_step_24 (by decide) ?_
      exact x_ls rfl (by first | rfl | (rw [if_pos hc_20] <;> rfl) | (simp only [if_pos hc_20]; rfl) | (simp only [if_pos hc_20])) J32
  · have hx0 := ne01 hx1
    rw [if_neg hx0, if_pos hx1]
    show xV _ _ _ _ _ _ _ _ _ _ _ _ _
    refine x_astore_n dX5_step_8 (by decide) rfl ?_
    refine x_aload_n dX5_step_9 rfl ?_
    refine x_ifnull dX5_step_10 ?_
    refine x_iload_n dX5_step_13 rfl ?_
    refine x_iconst (v := 2) dX5_step_14 (by decide) ?_
    refine x_bipush (v := 20) dX5_step_15 (by decide) ?_
    refine x_callS (M' := mX5_within) (mc' := 0) (ms' := 0) (As := [.int m, .int (2 : Int32), .int (20 : Int32)]) dX5_step_17 gX5_step_X5_within okX5_within rfl rfl (Nat.le_of_ble_eq_true rfl) (Nat.le_of_ble_eq_true rfl) (Nat.le_refl _) (Nat.le_refl _) (Nat.le_refl _) ?_
    refine kX5_within  ?_
    show xV _ _ _ _ _ _ _ _ _ _ _ _ _
    have J32 : xV G l mX5_step (d + 4) 0 0 0 0 32 [.ref sc, .int ax, .int m, .ref sy] [.int (if (FX5_within m (2 : Int32) (20 : Int32)) = 0 then (-1 : Int32) else (FX2_stepFor p.2.2.2 m))] h Q := by
      exact x_iret dX5_step_32 rfl (xri (by unfold FX5_step; rw [if_neg hx0, if_pos hx1]) hQ)
    refine x_if_ne (tgt := 27) dX5_step_20 (by decide) (fun hc_20 => ?_) (fun hc_20 => ?_)
    · refine x_aload_n dX5_step_27 rfl ?_
      refine x_iload_n dX5_step_28 rfl ?_
      refine x_callV (M' := mX2_stepFor) (mc' := 0) (ms' := 0) (As := [.int m]) dX5_step_29 gX5_step_X2_stepFor okX2_stepFor rfl rfl hK.2.1.2.2 rfl (Nat.le_of_ble_eq_true rfl) (Nat.le_of_ble_eq_true rfl) (Nat.le_refl _) (Nat.le_refl _) (Nat.le_refl _) ?_
      refine kX2_stepFor hK.2.1.2.2 ?_
      show xV _ _ _ _ _ _ _ _ _ _ _ _ _
      exact x_ls rfl (by first | rfl | (rw [if_neg hc_20] <;> rfl) | (simp only [if_neg hc_20]; rfl) | (simp only [if_neg hc_20])) J32
    · refine x_iconst (v := (-1)) dX5_step_23 (by decide) ?_
      refine x_goto (tgt := 32) dX5_step_24 (by decide) ?_
      exact x_ls rfl (by first | rfl | (rw [if_pos hc_20] <;> rfl) | (simp only [if_pos hc_20]; rfl) | (simp only [if_pos hc_20])) J32
  · rw [if_neg hx0, if_neg hx1]
    show xV _ _ _ _ _ _ _ _ _ _ _ _ _
    refine x_astore_nN dX5_step_8 (by decide) rfl ?_
    refine x_aload_nN dX5_step_9 rfl ?_
    refine x_ifnullN (tgt := 23) dX5_step_10 (by decide) ?_
    refine x_iconst (v := (-1)) dX5_step_23 (by decide) ?_
    refine x_goto (tgt := 32) dX5_step_24 (by decide) ?_
    exact x_iret dX5_step_32 rfl (xri (by unfold FX5_step; rw [if_neg hx0, if_neg hx1]) hQ)
def FX5_tick (p : xPv) (n : Int32) (U : Nat → Nat → Int32) (N : Nat) (I : Nat → xSi) (V : Nat → Nat → Nat → Int32) (ax m k : Int32) : Int32 := (if ax = 0 then (if (FX5_within m (2 : Int32) (20 : Int32)) = 0 then (-2000000000 : Int32) else (FX2_tickAt p.2.2.1 m k)) else (if ax = 1 then (if (FX5_within m (2 : Int32) (20 : Int32)) = 0 then (-2000000000 : Int32) else (FX2_tickAt p.2.2.2 m k)) else (-2000000000 : Int32)))
set_option maxHeartbeats 4000000 in
set_option maxRecDepth 100000 in
theorem kX5_tick {G : xG} {l : Launch} {d : Nat} {h : xH} {Q : Option Value → xH → Prop} {sc pg sx sy al ed : Nat} {C : Nat → Nat} {B : Nat → Nat → Nat} {p : xPv} {n : Int32} {U : Nat → Nat → Int32} {md : Int32} {N : Nat} {I : Nat → xSi} {V : Nat → Nat → Nat → Int32} {ax m k : Int32}  (hK : xCls G sc pg sx sy al ed C B p n U md N I V h)   (hQ : Q (some (.int (FX5_tick p n U N I V ax m k))) h) : xV G l mX5_tick (d + 5) 0 0 0 0 0 [.ref sc, .int ax, .int m, .int k, xU] [] h Q := by
  refine x_aload_n dX5_tick_0 rfl ?_
  refine x_get 0 dX5_tick_1 hK.1 rfl (by decide) (by decide +kernel) rfl ?_
  refine x_iload_n dX5_tick_4 rfl ?_
  refine x_callV (M' := mX1_scaleOf) (mc' := 0) (ms' := 0) (As := [.int ax]) dX5_tick_5 gX5_tick_X1_scaleOf okX1_scaleOf rfl rfl hK.2.1.1 rfl (Nat.le_of_ble_eq_true rfl) (Nat.le_of_ble_eq_true rfl) (Nat.le_refl _) (Nat.le_refl _) (Nat.le_refl _) ?_
  refine kX1_scaleOf hK.2.1 ?_
  rcases xax ax with hx0 | hx1 | ⟨hx0, hx1⟩
  · rw [if_pos hx0]
    show xV _ _ _ _ _ _ _ _ _ _ _ _ _
    refine x_astore dX5_tick_8 (by decide) rfl ?_
    refine x_aload dX5_tick_10 rfl ?_
    refine x_ifnull dX5_tick_12 ?_
    refine x_iload_n dX5_tick_15 rfl ?_
    refine x_iconst (v := 2) dX5_tick_16 (by decide) ?_
    refine x_bipush (v := 20) dX5_tick_17 (by decide) ?_
    refine x_callS (M' := mX5_within) (mc' := 0) (ms' := 0) (As := [.int m, .int (2 : Int32), .int (20 : Int32)]) dX5_tick_19 gX5_tick_X5_within okX5_within rfl rfl (Nat.le_of_ble_eq_true rfl) (Nat.le_of_ble_eq_true rfl) (Nat.le_refl _) (Nat.le_refl _) (Nat.le_refl _) ?_
    refine kX5_within  ?_
    show xV _ _ _ _ _ _ _ _ _ _ _ _ _
    have J37 : xV G l mX5_tick (d + 5) 0 0 0 0 37 [.ref sc, .int ax, .int m, .int k, .ref sx] [.int (if (FX5_within m (2 : Int32) (20 : Int32)) = 0 then (-2000000000 : Int32) else (FX2_tickAt p.2.2.1 m k))] h Q := by
      exact x_iret dX5_tick_37 rfl (xri (by unfold FX5_tick; rw [if_pos hx0]) hQ)
    refine x_if_ne (tgt := 30) dX5_tick_22 (by decide) (fun hc_22 => ?_) (fun hc_22 => ?_)
    · refine x_aload dX5_tick_30 rfl ?_
      refine x_iload_n dX5_tick_32 rfl ?_
      refine x_iload_n dX5_tick_33 rfl ?_
      refine x_callV (M' := mX2_tickAt) (mc' := 0) (ms' := 0) (As := [.int m, .int k]) dX5_tick_34 gX5_tick_X2_tickAt okX2_tickAt rfl rfl hK.2.1.2.1 rfl (Nat.le_of_ble_eq_true rfl) (Nat.le_of_ble_eq_true rfl) (Nat.le_refl _) (Nat.le_refl _) (Nat.le_refl _) ?_
      refine kX2_tickAt hK.2.1.2.1 ?_
      show xV _ _ _ _ _ _ _ _ _ _ _ _ _
      exact x_ls rfl (by first | rfl | (rw [if_neg hc_22] <;> rfl) | (simp only [if_neg hc_22]; rfl) | (simp only [if_neg hc_22])) J37
    · refine x_ldc (v := (-2000000000)) dX5_tick_25 (by decide +kernel) ?_
      refine x_goto (tgt := 37) dX5_tick_27 (by decide) ?_
      exact x_ls rfl (by first | rfl | (rw [if_pos hc_22] <;> rfl) | (simp only [if_pos hc_22]; rfl) | (simp only [if_pos hc_22])) J37
  · have hx0 := ne01 hx1
    rw [if_neg hx0, if_pos hx1]
    show xV _ _ _ _ _ _ _ _ _ _ _ _ _
    refine x_astore dX5_tick_8 (by decide) rfl ?_
    refine x_aload dX5_tick_10 rfl ?_
    refine x_ifnull dX5_tick_12 ?_
    refine x_iload_n dX5_tick_15 rfl ?_
    refine x_iconst (v := 2) dX5_tick_16 (by decide) ?_
    refine x_bipush (v := 20) dX5_tick_17 (by decide) ?_
    refine x_callS (M' := mX5_within) (mc' := 0) (ms' := 0) (As := [.int m, .int (2 : Int32), .int (20 : Int32)]) dX5_tick_19 gX5_tick_X5_within okX5_within rfl rfl (Nat.le_of_ble_eq_true rfl) (Nat.le_of_ble_eq_true rfl) (Nat.le_refl _) (Nat.le_refl _) (Nat.le_refl _) ?_
    refine kX5_within  ?_
    show xV _ _ _ _ _ _ _ _ _ _ _ _ _
    have J37 : xV G l mX5_tick (d + 5) 0 0 0 0 37 [.ref sc, .int ax, .int m, .int k, .ref sy] [.int (if (FX5_within m (2 : Int32) (20 : Int32)) = 0 then (-2000000000 : Int32) else (FX2_tickAt p.2.2.2 m k))] h Q := by
      exact x_iret dX5_tick_37 rfl (xri (by unfold FX5_tick; rw [if_neg hx0, if_pos hx1]) hQ)
    refine x_if_ne (tgt := 30) dX5_tick_22 (by decide) (fun hc_22 => ?_) (fun hc_22 => ?_)
    · refine x_aload dX5_tick_30 rfl ?_
      refine x_iload_n dX5_tick_32 rfl ?_
      refine x_iload_n dX5_tick_33 rfl ?_
      refine x_callV (M' := mX2_tickAt) (mc' := 0) (ms' := 0) (As := [.int m, .int k]) dX5_tick_34 gX5_tick_X2_tickAt okX2_tickAt rfl rfl hK.2.1.2.2 rfl (Nat.le_of_ble_eq_true rfl) (Nat.le_of_ble_eq_true rfl) (Nat.le_refl _) (Nat.le_refl _) (Nat.le_refl _) ?_
      refine kX2_tickAt hK.2.1.2.2 ?_
      show xV _ _ _ _ _ _ _ _ _ _ _ _ _
      exact x_ls rfl (by first | rfl | (rw [if_neg hc_22] <;> rfl) | (simp only [if_neg hc_22]; rfl) | (simp only [if_neg hc_22])) J37
    · refine x_ldc (v := (-2000000000)) dX5_tick_25 (by decide +kernel) ?_
      refine x_goto (tgt := 37) dX5_tick_27 (by decide) ?_
      exact x_ls rfl (by first | rfl | (rw [if_pos hc_22] <;> rfl) | (simp only [if_pos hc_22]; rfl) | (simp only [if_pos hc_22])) J37
  · rw [if_neg hx0, if_neg hx1]
    show xV _ _ _ _ _ _ _ _ _ _ _ _ _
    refine x_astoreN dX5_tick_8 (by decide) rfl ?_
    refine x_aloadN dX5_tick_10 rfl ?_
    refine x_ifnullN (tgt := 25) dX5_tick_12 (by decide) ?_
    refine x_ldc (v := (-2000000000)) dX5_tick_25 (by decide +kernel) ?_
    refine x_goto (tgt := 37) dX5_tick_27 (by decide) ?_
    exact x_iret dX5_tick_37 rfl (xri (by unfold FX5_tick; rw [if_neg hx0, if_neg hx1]) hQ)
def FX5_told (p : xPv) (n : Int32) (U : Nat → Nat → Int32) (N : Nat) (I : Nat → xSi) (V : Nat → Nat → Nat → Int32) (w : Int32) : Int32 := (if w = 0 then (nI N) else (if w = 1 then n else (if w = 2 then p.1 else (if w = 3 then p.2.1 else (if w = 4 then p.2.2.1.1 else (if w = 5 then p.2.2.2.1 else (if w = 6 then p.2.2.1.2.1 else (if w = 7 then p.2.2.2.2.1 else (if w = 8 then p.2.2.1.2.2.1 else (if w = 9 then p.2.2.2.2.2.1 else (-2000000000 : Int32)))))))))))
set_option maxHeartbeats 4000000 in
set_option maxRecDepth 100000 in
theorem kX5_told {G : xG} {l : Launch} {d : Nat} {h : xH} {Q : Option Value → xH → Prop} {sc pg sx sy al ed : Nat} {C : Nat → Nat} {B : Nat → Nat → Nat} {p : xPv} {n : Int32} {U : Nat → Nat → Int32} {md : Int32} {N : Nat} {I : Nat → xSi} {V : Nat → Nat → Nat → Int32} {w : Int32}  (hK : xCls G sc pg sx sy al ed C B p n U md N I V h)   (hQ : Q (some (.int (FX5_told p n U N I V w))) h) : xV G l mX5_told (d + 1) 0 0 0 0 0 [.ref sc, .int w] [] h Q := by
  refine x_iload_n dX5_told_0 rfl ?_
  by_cases hs_1_0 : w = 0
  · refine x_tcase hs_1_0 (tgt := 56) (off := 55) dX5_told_1 (by decide) (by decide) (by decide) (by decide) ?_
    refine x_aload_n dX5_told_56 rfl ?_
    refine x_get 1 dX5_told_57 hK.1 rfl (by decide) (by decide +kernel) rfl ?_
    refine x_callV (M' := mJx4a65c_size_8abf5) (mc' := 0) (ms' := 0) (As := []) dX5_told_60 gX5_told_Jx4a65c_size_8abf5 okJx4a65c_size_8abf5 rfl rfl hK.2.2.2.1 rfl (Nat.le_of_ble_eq_true rfl) (Nat.le_of_ble_eq_true rfl) (Nat.le_refl _) (Nat.le_refl _) (Nat.le_refl _) ?_
    refine kJx4a65c_size_8abf5 hK.2.2.2.1 ?_
    show xV _ _ _ _ _ _ _ _ _ _ _ _ _
    exact x_iret dX5_told_63 rfl (xri (by unfold FX5_told; rw [if_pos hs_1_0]) hQ)
  by_cases hs_1_1 : w = 1
  · refine x_tcase hs_1_1 (tgt := 64) (off := 63) dX5_told_1 (by decide) (by decide) (by decide) (by decide) ?_
    refine x_aload_n dX5_told_64 rfl ?_
    refine x_get 2 dX5_told_65 hK.1 rfl (by decide) (by decide +kernel) rfl ?_
    refine x_get 0 dX5_told_68 hK.2.2.1.1 rfl (by decide) (by decide +kernel) rfl ?_
    exact x_iret dX5_told_71 rfl (xri (by unfold FX5_told; rw [if_neg hs_1_0, if_pos hs_1_1]) hQ)
  by_cases hs_1_2 : w = 2
  · refine x_tcase hs_1_2 (tgt := 72) (off := 71) dX5_told_1 (by decide) (by decide) (by decide) (by decide) ?_
    refine x_aload_n dX5_told_72 rfl ?_
    refine x_get 0 dX5_told_73 hK.1 rfl (by decide) (by decide +kernel) rfl ?_
    refine x_get 0 dX5_told_76 hK.2.1.1 rfl (by decide) (by decide +kernel) rfl ?_
    exact x_iret dX5_told_79 rfl (xri (by unfold FX5_told; rw [if_neg hs_1_0, if_neg hs_1_1, if_pos hs_1_2]) hQ)
  by_cases hs_1_3 : w = 3
  · refine x_tcase hs_1_3 (tgt := 80) (off := 79) dX5_told_1 (by decide) (by decide) (by decide) (by decide) ?_
    refine x_aload_n dX5_told_80 rfl ?_
    refine x_get 0 dX5_told_81 hK.1 rfl (by decide) (by decide +kernel) rfl ?_
    refine x_get 1 dX5_told_84 hK.2.1.1 rfl (by decide) (by decide +kernel) rfl ?_
    exact x_iret dX5_told_87 rfl (xri (by unfold FX5_told; rw [if_neg hs_1_0, if_neg hs_1_1, if_neg hs_1_2, if_pos hs_1_3]) hQ)
  by_cases hs_1_4 : w = 4
  · refine x_tcase hs_1_4 (tgt := 88) (off := 87) dX5_told_1 (by decide) (by decide) (by decide) (by decide) ?_
    refine x_aload_n dX5_told_88 rfl ?_
    refine x_get 0 dX5_told_89 hK.1 rfl (by decide) (by decide +kernel) rfl ?_
    refine x_get 2 dX5_told_92 hK.2.1.1 rfl (by decide) (by decide +kernel) rfl ?_
    refine x_get 0 dX5_told_95 hK.2.1.2.1 rfl (by decide) (by decide +kernel) rfl ?_
    exact x_iret dX5_told_98 rfl (xri (by unfold FX5_told; rw [if_neg hs_1_0, if_neg hs_1_1, if_neg hs_1_2, if_neg hs_1_3, if_pos hs_1_4]) hQ)
  by_cases hs_1_5 : w = 5
  · refine x_tcase hs_1_5 (tgt := 99) (off := 98) dX5_told_1 (by decide) (by decide) (by decide) (by decide) ?_
    refine x_aload_n dX5_told_99 rfl ?_
    refine x_get 0 dX5_told_100 hK.1 rfl (by decide) (by decide +kernel) rfl ?_
    refine x_get 3 dX5_told_103 hK.2.1.1 rfl (by decide) (by decide +kernel) rfl ?_
    refine x_get 0 dX5_told_106 hK.2.1.2.2 rfl (by decide) (by decide +kernel) rfl ?_
    exact x_iret dX5_told_109 rfl (xri (by unfold FX5_told; rw [if_neg hs_1_0, if_neg hs_1_1, if_neg hs_1_2, if_neg hs_1_3, if_neg hs_1_4, if_pos hs_1_5]) hQ)
  by_cases hs_1_6 : w = 6
  · refine x_tcase hs_1_6 (tgt := 110) (off := 109) dX5_told_1 (by decide) (by decide) (by decide) (by decide) ?_
    refine x_aload_n dX5_told_110 rfl ?_
    refine x_get 0 dX5_told_111 hK.1 rfl (by decide) (by decide +kernel) rfl ?_
    refine x_get 2 dX5_told_114 hK.2.1.1 rfl (by decide) (by decide +kernel) rfl ?_
    refine x_get 1 dX5_told_117 hK.2.1.2.1 rfl (by decide) (by decide +kernel) rfl ?_
    exact x_iret dX5_told_120 rfl (xri (by unfold FX5_told; rw [if_neg hs_1_0, if_neg hs_1_1, if_neg hs_1_2, if_neg hs_1_3, if_neg hs_1_4, if_neg hs_1_5, if_pos hs_1_6]) hQ)
  by_cases hs_1_7 : w = 7
  · refine x_tcase hs_1_7 (tgt := 121) (off := 120) dX5_told_1 (by decide) (by decide) (by decide) (by decide) ?_
    refine x_aload_n dX5_told_121 rfl ?_
    refine x_get 0 dX5_told_122 hK.1 rfl (by decide) (by decide +kernel) rfl ?_
    refine x_get 3 dX5_told_125 hK.2.1.1 rfl (by decide) (by decide +kernel) rfl ?_
    refine x_get 1 dX5_told_128 hK.2.1.2.2 rfl (by decide) (by decide +kernel) rfl ?_
    exact x_iret dX5_told_131 rfl (xri (by unfold FX5_told; rw [if_neg hs_1_0, if_neg hs_1_1, if_neg hs_1_2, if_neg hs_1_3, if_neg hs_1_4, if_neg hs_1_5, if_neg hs_1_6, if_pos hs_1_7]) hQ)
  by_cases hs_1_8 : w = 8
  · refine x_tcase hs_1_8 (tgt := 132) (off := 131) dX5_told_1 (by decide) (by decide) (by decide) (by decide) ?_
    refine x_aload_n dX5_told_132 rfl ?_
    refine x_get 0 dX5_told_133 hK.1 rfl (by decide) (by decide +kernel) rfl ?_
    refine x_get 2 dX5_told_136 hK.2.1.1 rfl (by decide) (by decide +kernel) rfl ?_
    refine x_get 2 dX5_told_139 hK.2.1.2.1 rfl (by decide) (by decide +kernel) rfl ?_
    exact x_iret dX5_told_142 rfl (xri (by unfold FX5_told; rw [if_neg hs_1_0, if_neg hs_1_1, if_neg hs_1_2, if_neg hs_1_3, if_neg hs_1_4, if_neg hs_1_5, if_neg hs_1_6, if_neg hs_1_7, if_pos hs_1_8]) hQ)
  by_cases hs_1_9 : w = 9
  · refine x_tcase hs_1_9 (tgt := 143) (off := 142) dX5_told_1 (by decide) (by decide) (by decide) (by decide) ?_
    refine x_aload_n dX5_told_143 rfl ?_
    refine x_get 0 dX5_told_144 hK.1 rfl (by decide) (by decide +kernel) rfl ?_
    refine x_get 3 dX5_told_147 hK.2.1.1 rfl (by decide) (by decide +kernel) rfl ?_
    refine x_get 2 dX5_told_150 hK.2.1.2.2 rfl (by decide) (by decide +kernel) rfl ?_
    exact x_iret dX5_told_153 rfl (xri (by unfold FX5_told; rw [if_neg hs_1_0, if_neg hs_1_1, if_neg hs_1_2, if_neg hs_1_3, if_neg hs_1_4, if_neg hs_1_5, if_neg hs_1_6, if_neg hs_1_7, if_neg hs_1_8, if_pos hs_1_9]) hQ)
  have z_1_0 : Int32.toInt (w) ≠ 0 := fun q => hs_1_0 (Int32.toInt_inj.mp (by rw [q]; rfl))
  have z_1_1 : Int32.toInt (w) ≠ 1 := fun q => hs_1_1 (Int32.toInt_inj.mp (by rw [q]; rfl))
  have z_1_2 : Int32.toInt (w) ≠ 2 := fun q => hs_1_2 (Int32.toInt_inj.mp (by rw [q]; rfl))
  have z_1_3 : Int32.toInt (w) ≠ 3 := fun q => hs_1_3 (Int32.toInt_inj.mp (by rw [q]; rfl))
  have z_1_4 : Int32.toInt (w) ≠ 4 := fun q => hs_1_4 (Int32.toInt_inj.mp (by rw [q]; rfl))
  have z_1_5 : Int32.toInt (w) ≠ 5 := fun q => hs_1_5 (Int32.toInt_inj.mp (by rw [q]; rfl))
  have z_1_6 : Int32.toInt (w) ≠ 6 := fun q => hs_1_6 (Int32.toInt_inj.mp (by rw [q]; rfl))
  have z_1_7 : Int32.toInt (w) ≠ 7 := fun q => hs_1_7 (Int32.toInt_inj.mp (by rw [q]; rfl))
  have z_1_8 : Int32.toInt (w) ≠ 8 := fun q => hs_1_8 (Int32.toInt_inj.mp (by rw [q]; rfl))
  have z_1_9 : Int32.toInt (w) ≠ 9 := fun q => hs_1_9 (Int32.toInt_inj.mp (by rw [q]; rfl))
  refine x_tout (tgt := 154) dX5_told_1 (by omega) (by decide) ?_
  refine x_ldc (v := (-2000000000)) dX5_told_154 (by decide +kernel) ?_
  exact x_iret dX5_told_156 rfl (xri (by unfold FX5_told; rw [if_neg hs_1_0, if_neg hs_1_1, if_neg hs_1_2, if_neg hs_1_3, if_neg hs_1_4, if_neg hs_1_5, if_neg hs_1_6, if_neg hs_1_7, if_neg hs_1_8, if_neg hs_1_9]) hQ)
theorem wi_iff {v a b : Int32} : ¬ FX5_within v a b = 0 ↔ ¬ v < a ∧ ¬ b < v := by
  unfold FX5_within
  by_cases h1 : v < a
  · simp [h1]
  · by_cases h2 : b < v
    · simp [h1, h2]
    · simp [h1, h2]
theorem lab_in {v n : Int32} (h20 : n ≤ 20) (h0 : 0 ≤ n) (h : ¬ FX5_within v 0 (n - 1) = 0) : vp_in v 20 := by
  obtain ⟨h1, h2⟩ := wi_iff.mp h
  rw [Int32.lt_iff_toInt_lt] at h1 h2
  rw [Int32.le_iff_toInt_le] at h20 h0
  have e0 : (0 : Int32).toInt = 0 := rfl
  have e20 : (20 : Int32).toInt = 20 := rfl
  have e1 : (1 : Int32).toInt = 1 := rfl
  rw [Int32.toInt_sub, e1] at h2
  have : (n.toInt - 1).bmod (2 ^ 32) = n.toInt - 1 := by
    rw [Int.bmod_def]; omega
  rw [vp_in_iff]
  omega
def FX5_labelled (p : xPv) (n : Int32) (U : Nat → Nat → Int32) (N : Nat) (I : Nat → xSi) (V : Nat → Nat → Nat → Int32) (lb w : Int32) : Int32 := (if (FX5_within lb (0 : Int32) (n - (1 : Int32))) = 0 then (-1 : Int32) else (if w = 0 then ((U 1) (Int32.toNatClampNeg lb)) else (if w = 1 then ((U 2) (Int32.toNatClampNeg lb)) else (if w = 2 then ((U 3) (Int32.toNatClampNeg lb)) else (if w = 3 then ((U 4) (Int32.toNatClampNeg lb)) else (if w = 4 then ((U 5) (Int32.toNatClampNeg lb)) else (-1 : Int32)))))))
set_option maxHeartbeats 4000000 in
set_option maxRecDepth 100000 in
theorem kX5_labelled {G : xG} {l : Launch} {d : Nat} {h : xH} {Q : Option Value → xH → Prop} {sc pg sx sy al ed : Nat} {C : Nat → Nat} {B : Nat → Nat → Nat} {p : xPv} {n : Int32} {U : Nat → Nat → Int32} {md : Int32} {N : Nat} {I : Nat → xSi} {V : Nat → Nat → Nat → Int32} {lb w : Int32}  (hK : xCls G sc pg sx sy al ed C B p n U md N I V h) (hn20 : n ≤ 20) (hn0 : 0 ≤ n)  (hQ : Q (some (.int (FX5_labelled p n U N I V lb w))) h) : xV G l mX5_labelled (d + 1) 0 0 0 0 0 [.ref sc, .int lb, .int w] [] h Q := by
  refine x_iload_n dX5_labelled_0 rfl ?_
  refine x_iconst (v := 0) dX5_labelled_1 (by decide) ?_
  refine x_aload_n dX5_labelled_2 rfl ?_
  refine x_get 2 dX5_labelled_3 hK.1 rfl (by decide) (by decide +kernel) rfl ?_
  refine x_get 0 dX5_labelled_6 hK.2.2.1.1 rfl (by decide) (by decide +kernel) rfl ?_
  refine x_iconst (v := 1) dX5_labelled_9 (by decide) ?_
  refine x_isub dX5_labelled_10 ?_
  refine x_callS (M' := mX5_within) (mc' := 0) (ms' := 0) (As := [.int lb, .int (0 : Int32), .int (n - (1 : Int32))]) dX5_labelled_11 gX5_labelled_X5_within okX5_within rfl rfl (Nat.le_of_ble_eq_true rfl) (Nat.le_of_ble_eq_true rfl) (Nat.le_refl _) (Nat.le_refl _) (Nat.le_refl _) ?_
  refine kX5_within  ?_
  show xV _ _ _ _ _ _ _ _ _ _ _ _ _
  refine x_if_ne (tgt := 19) dX5_labelled_14 (by decide) (fun hc_14 => ?_) (fun hc_14 => ?_)
  · refine x_iload_n dX5_labelled_19 rfl ?_
    by_cases hs_20_0 : w = 0
    · refine x_tcase hs_20_0 (tgt := 56) (off := 36) dX5_labelled_20 (by decide) (by decide) (by decide) (by decide) ?_
      refine x_aload_n dX5_labelled_56 rfl ?_
      refine x_get 2 dX5_labelled_57 hK.1 rfl (by decide) (by decide +kernel) rfl ?_
      refine x_get 1 dX5_labelled_60 hK.2.2.1.1 rfl (by decide) (by decide +kernel) rfl ?_
      refine x_iload_n dX5_labelled_63 rfl ?_
      refine x_iald dX5_labelled_64 hK.2.2.1.2.1 (lab_in hn20 hn0 hc_14) ?_
      exact x_iret dX5_labelled_65 rfl (xri (by unfold FX5_labelled; rw [if_neg hc_14, if_pos hs_20_0]) hQ)
    by_cases hs_20_1 : w = 1
    · refine x_tcase hs_20_1 (tgt := 66) (off := 46) dX5_labelled_20 (by decide) (by decide) (by decide) (by decide) ?_
      refine x_aload_n dX5_labelled_66 rfl ?_
      refine x_get 2 dX5_labelled_67 hK.1 rfl (by decide) (by decide +kernel) rfl ?_
      refine x_get 2 dX5_labelled_70 hK.2.2.1.1 rfl (by decide) (by decide +kernel) rfl ?_
      refine x_iload_n dX5_labelled_73 rfl ?_
      refine x_iald dX5_labelled_74 hK.2.2.1.2.2.1 (lab_in hn20 hn0 hc_14) ?_
      exact x_iret dX5_labelled_75 rfl (xri (by unfold FX5_labelled; rw [if_neg hc_14, if_neg hs_20_0, if_pos hs_20_1]) hQ)
    by_cases hs_20_2 : w = 2
    · refine x_tcase hs_20_2 (tgt := 76) (off := 56) dX5_labelled_20 (by decide) (by decide) (by decide) (by decide) ?_
      refine x_aload_n dX5_labelled_76 rfl ?_
      refine x_get 2 dX5_labelled_77 hK.1 rfl (by decide) (by decide +kernel) rfl ?_
      refine x_get 3 dX5_labelled_80 hK.2.2.1.1 rfl (by decide) (by decide +kernel) rfl ?_
      refine x_iload_n dX5_labelled_83 rfl ?_
      refine x_iald dX5_labelled_84 hK.2.2.1.2.2.2.1 (lab_in hn20 hn0 hc_14) ?_
      exact x_iret dX5_labelled_85 rfl (xri (by unfold FX5_labelled; rw [if_neg hc_14, if_neg hs_20_0, if_neg hs_20_1, if_pos hs_20_2]) hQ)
    by_cases hs_20_3 : w = 3
    · refine x_tcase hs_20_3 (tgt := 86) (off := 66) dX5_labelled_20 (by decide) (by decide) (by decide) (by decide) ?_
      refine x_aload_n dX5_labelled_86 rfl ?_
      refine x_get 2 dX5_labelled_87 hK.1 rfl (by decide) (by decide +kernel) rfl ?_
      refine x_get 4 dX5_labelled_90 hK.2.2.1.1 rfl (by decide) (by decide +kernel) rfl ?_
      refine x_iload_n dX5_labelled_93 rfl ?_
      refine x_iald dX5_labelled_94 hK.2.2.1.2.2.2.2.1 (lab_in hn20 hn0 hc_14) ?_
      exact x_iret dX5_labelled_95 rfl (xri (by unfold FX5_labelled; rw [if_neg hc_14, if_neg hs_20_0, if_neg hs_20_1, if_neg hs_20_2, if_pos hs_20_3]) hQ)
    by_cases hs_20_4 : w = 4
    · refine x_tcase hs_20_4 (tgt := 96) (off := 76) dX5_labelled_20 (by decide) (by decide) (by decide) (by decide) ?_
      refine x_aload_n dX5_labelled_96 rfl ?_
      refine x_get 2 dX5_labelled_97 hK.1 rfl (by decide) (by decide +kernel) rfl ?_
      refine x_get 5 dX5_labelled_100 hK.2.2.1.1 rfl (by decide) (by decide +kernel) rfl ?_
      refine x_iload_n dX5_labelled_103 rfl ?_
      refine x_iald dX5_labelled_104 hK.2.2.1.2.2.2.2.2 (lab_in hn20 hn0 hc_14) ?_
      exact x_iret dX5_labelled_105 rfl (xri (by unfold FX5_labelled; rw [if_neg hc_14, if_neg hs_20_0, if_neg hs_20_1, if_neg hs_20_2, if_neg hs_20_3, if_pos hs_20_4]) hQ)
    have z_20_0 : Int32.toInt (w) ≠ 0 := fun q => hs_20_0 (Int32.toInt_inj.mp (by rw [q]; rfl))
    have z_20_1 : Int32.toInt (w) ≠ 1 := fun q => hs_20_1 (Int32.toInt_inj.mp (by rw [q]; rfl))
    have z_20_2 : Int32.toInt (w) ≠ 2 := fun q => hs_20_2 (Int32.toInt_inj.mp (by rw [q]; rfl))
    have z_20_3 : Int32.toInt (w) ≠ 3 := fun q => hs_20_3 (Int32.toInt_inj.mp (by rw [q]; rfl))
    have z_20_4 : Int32.toInt (w) ≠ 4 := fun q => hs_20_4 (Int32.toInt_inj.mp (by rw [q]; rfl))
    refine x_tout (tgt := 106) dX5_labelled_20 (by omega) (by decide) ?_
    refine x_iconst (v := (-1)) dX5_labelled_106 (by decide) ?_
    exact x_iret dX5_labelled_107 rfl (xri (by unfold FX5_labelled; rw [if_neg hc_14, if_neg hs_20_0, if_neg hs_20_1, if_neg hs_20_2, if_neg hs_20_3, if_neg hs_20_4]) hQ)
  · refine x_iconst (v := (-1)) dX5_labelled_17 (by decide) ?_
    exact x_iret dX5_labelled_18 rfl (xri (by unfold FX5_labelled; rw [if_pos hc_14]) hQ)
def FX5_aboutJ (p : xPv) (n : Int32) (U : Nat → Nat → Int32) (N : Nat) (I : Nat → xSi) (V : Nat → Nat → Nat → Int32) (j : Nat) (q w : Int32) : Int32 := (if (FX3_isPoint (I j) (V j) q) = 0 then (-2000000000 : Int32) else (if w = 0 then ((V j 1) (Int32.toNatClampNeg q)) else (if w = 1 then ((V j 2) (Int32.toNatClampNeg q)) else (if w = 2 then ((V j 3) (Int32.toNatClampNeg q)) else (if w = 3 then (if (FX3_isSeen p (I j) (V j) q) = 0 then (-2000000000 : Int32) else (FX3_dotAcross p (I j) (V j) q)) else (if w = 4 then (if (FX3_isSeen p (I j) (V j) q) = 0 then (-2000000000 : Int32) else (FX3_dotUpwards p (I j) (V j) q)) else (-2000000000 : Int32)))))))
set_option maxHeartbeats 4000000 in
set_option maxRecDepth 100000 in
theorem kX5_aboutJ {G : xG} {l : Launch} {d : Nat} {h : xH} {Q : Option Value → xH → Prop} {sc pg sx sy al ed : Nat} {C : Nat → Nat} {B : Nat → Nat → Nat} {p : xPv} {n : Int32} {U : Nat → Nat → Int32} {md : Int32} {N : Nat} {I : Nat → xSi} {V : Nat → Nat → Nat → Int32} {j : Nat} {q w : Int32}  (hK : xCls G sc pg sx sy al ed C B p n U md N I V h) (hj : j < N) (hz : ∀ k, k < N → (I k).2.2.2.1 ≤ 24)  (hQ : Q (some (.int (FX5_aboutJ p n U N I V j q w))) h) : xV G l mX5_about (d + 4) 0 0 0 0 0 [.ref sc, .int (nI j), .int q, .int w, xU] [] h Q := by
  refine x_aload_n dX5_about_0 rfl ?_
  refine x_iload_n dX5_about_1 rfl ?_
  refine x_callV (M' := mX5_seriesOf) (mc' := 0) (ms' := 0) (As := [.int (nI j)]) dX5_about_2 gX5_about_X5_seriesOf okX5_seriesOf rfl rfl hK.1 rfl (Nat.le_of_ble_eq_true rfl) (Nat.le_of_ble_eq_true rfl) (Nat.le_refl _) (Nat.le_refl _) (Nat.le_refl _) ?_
  refine kX5_seriesOf hK hj ?_
  show xV _ _ _ _ _ _ _ _ _ _ _ _ _
  refine x_astore dX5_about_5 (by decide) rfl ?_
  refine x_aload dX5_about_7 rfl ?_
  refine x_ifnull dX5_about_9 ?_
  refine x_aload dX5_about_12 rfl ?_
  refine x_iload_n dX5_about_14 rfl ?_
  refine x_callV (M' := mX3_isPoint) (mc' := 0) (ms' := 0) (As := [.int q]) dX5_about_15 gX5_about_X3_isPoint okX3_isPoint rfl rfl (hK.2.2.2.2.2.1 j hj).1 rfl (Nat.le_of_ble_eq_true rfl) (Nat.le_of_ble_eq_true rfl) (Nat.le_refl _) (Nat.le_refl _) (Nat.le_refl _) ?_
  refine kX3_isPoint (hK.2.2.2.2.2.1 j hj) (hz _ hj) ?_
  show xV _ _ _ _ _ _ _ _ _ _ _ _ _
  refine x_if_ne (tgt := 24) dX5_about_18 (by decide) (fun hc_18 => ?_) (fun hc_18 => ?_)
  · refine x_iload_n dX5_about_24 rfl ?_
    by_cases hs_25_0 : w = 0
    · refine x_tcase hs_25_0 (tgt := 60) (off := 35) dX5_about_25 (by decide) (by decide) (by decide) (by decide) ?_
      refine x_aload dX5_about_60 rfl ?_
      refine x_get 5 dX5_about_62 (hK.2.2.2.2.2.1 j hj).1 rfl (by decide) (by decide +kernel) rfl ?_
      refine x_iload_n dX5_about_65 rfl ?_
      refine x_iald dX5_about_66 (hK.2.2.2.2.2.1 j hj).2.1 (xpt_in (hz _ hj) hc_18) ?_
      exact x_iret dX5_about_67 rfl (xri (by unfold FX5_aboutJ; rw [if_neg hc_18, if_pos hs_25_0]) hQ)
    by_cases hs_25_1 : w = 1
    · refine x_tcase hs_25_1 (tgt := 68) (off := 43) dX5_about_25 (by decide) (by decide) (by decide) (by decide) ?_
      refine x_aload dX5_about_68 rfl ?_
      refine x_get 6 dX5_about_70 (hK.2.2.2.2.2.1 j hj).1 rfl (by decide) (by decide +kernel) rfl ?_
      refine x_iload_n dX5_about_73 rfl ?_
      refine x_iald dX5_about_74 (hK.2.2.2.2.2.1 j hj).2.2.1 (xpt_in (hz _ hj) hc_18) ?_
      exact x_iret dX5_about_75 rfl (xri (by unfold FX5_aboutJ; rw [if_neg hc_18, if_neg hs_25_0, if_pos hs_25_1]) hQ)
    by_cases hs_25_2 : w = 2
    · refine x_tcase hs_25_2 (tgt := 76) (off := 51) dX5_about_25 (by decide) (by decide) (by decide) (by decide) ?_
      refine x_aload dX5_about_76 rfl ?_
      refine x_get 7 dX5_about_78 (hK.2.2.2.2.2.1 j hj).1 rfl (by decide) (by decide +kernel) rfl ?_
      refine x_iload_n dX5_about_81 rfl ?_
      refine x_iald dX5_about_82 (hK.2.2.2.2.2.1 j hj).2.2.2.1 (xpt_in (hz _ hj) hc_18) ?_
      exact x_iret dX5_about_83 rfl (xri (by unfold FX5_aboutJ; rw [if_neg hc_18, if_neg hs_25_0, if_neg hs_25_1, if_pos hs_25_2]) hQ)
    by_cases hs_25_3 : w = 3
    · refine x_tcase hs_25_3 (tgt := 84) (off := 59) dX5_about_25 (by decide) (by decide) (by decide) (by decide) ?_
      refine x_aload dX5_about_84 rfl ?_
      refine x_iload_n dX5_about_86 rfl ?_
      refine x_callV (M' := mX3_isSeen) (mc' := 0) (ms' := 0) (As := [.int q]) dX5_about_87 gX5_about_X3_isSeen okX3_isSeen rfl rfl (hK.2.2.2.2.2.1 j hj).1 rfl (Nat.le_of_ble_eq_true rfl) (Nat.le_of_ble_eq_true rfl) (Nat.le_refl _) (Nat.le_refl _) (Nat.le_refl _) ?_
      refine kX3_isSeen hK.2.1 (hK.2.2.2.2.2.1 j hj) (hz _ hj) ?_
      show xV _ _ _ _ _ _ _ _ _ _ _ _ _
      have J104 : xV G l mX5_about (d + 4) 0 0 0 0 104 [.ref sc, .int (nI j), .int q, .int w, .ref (B j 0)] [.int (if (FX3_isSeen p (I j) (V j) q) = 0 then (-2000000000 : Int32) else (FX3_dotAcross p (I j) (V j) q))] h Q := by
        exact x_iret dX5_about_104 rfl (xri (by unfold FX5_aboutJ; rw [if_neg hc_18, if_neg hs_25_0, if_neg hs_25_1, if_neg hs_25_2, if_pos hs_25_3]) hQ)
      refine x_if_eq (tgt := 102) dX5_about_90 (by decide) (fun hc_90 => ?_) (fun hc_90 => ?_)
      · refine x_ldc (v := (-2000000000)) dX5_about_102 (by decide +kernel) ?_
        exact x_ls rfl (by first | rfl | (rw [if_pos hc_90] <;> rfl) | (simp only [if_pos hc_90]; rfl) | (simp only [if_pos hc_90])) J104
      · refine x_aload dX5_about_93 rfl ?_
        refine x_iload_n dX5_about_95 rfl ?_
        refine x_callV (M' := mX3_dotAcross) (mc' := 0) (ms' := 0) (As := [.int q]) dX5_about_96 gX5_about_X3_dotAcross okX3_dotAcross rfl rfl (hK.2.2.2.2.2.1 j hj).1 rfl (Nat.le_of_ble_eq_true rfl) (Nat.le_of_ble_eq_true rfl) (Nat.le_refl _) (Nat.le_refl _) (Nat.le_refl _) ?_
        refine kX3_dotAcross hK.2.1 (hK.2.2.2.2.2.1 j hj) (hz _ hj) ?_
        show xV _ _ _ _ _ _ _ _ _ _ _ _ _
        refine x_goto (tgt := 104) dX5_about_99 (by decide) ?_
        exact x_ls rfl (by first | rfl | (rw [if_neg hc_90] <;> rfl) | (simp only [if_neg hc_90]; rfl) | (simp only [if_neg hc_90])) J104
    by_cases hs_25_4 : w = 4
    · refine x_tcase hs_25_4 (tgt := 105) (off := 80) dX5_about_25 (by decide) (by decide) (by decide) (by decide) ?_
      refine x_aload dX5_about_105 rfl ?_
      refine x_iload_n dX5_about_107 rfl ?_
      refine x_callV (M' := mX3_isSeen) (mc' := 0) (ms' := 0) (As := [.int q]) dX5_about_108 gX5_about_X3_isSeen okX3_isSeen rfl rfl (hK.2.2.2.2.2.1 j hj).1 rfl (Nat.le_of_ble_eq_true rfl) (Nat.le_of_ble_eq_true rfl) (Nat.le_refl _) (Nat.le_refl _) (Nat.le_refl _) ?_
      refine kX3_isSeen hK.2.1 (hK.2.2.2.2.2.1 j hj) (hz _ hj) ?_
      show xV _ _ _ _ _ _ _ _ _ _ _ _ _
      have J125 : xV G l mX5_about (d + 4) 0 0 0 0 125 [.ref sc, .int (nI j), .int q, .int w, .ref (B j 0)] [.int (if (FX3_isSeen p (I j) (V j) q) = 0 then (-2000000000 : Int32) else (FX3_dotUpwards p (I j) (V j) q))] h Q := by
        exact x_iret dX5_about_125 rfl (xri (by unfold FX5_aboutJ; rw [if_neg hc_18, if_neg hs_25_0, if_neg hs_25_1, if_neg hs_25_2, if_neg hs_25_3, if_pos hs_25_4]) hQ)
      refine x_if_eq (tgt := 123) dX5_about_111 (by decide) (fun hc_111 => ?_) (fun hc_111 => ?_)
      · refine x_ldc (v := (-2000000000)) dX5_about_123 (by decide +kernel) ?_
        exact x_ls rfl (by first | rfl | (rw [if_pos hc_111] <;> rfl) | (simp only [if_pos hc_111]; rfl) | (simp only [if_pos hc_111])) J125
      · refine x_aload dX5_about_114 rfl ?_
        refine x_iload_n dX5_about_116 rfl ?_
        refine x_callV (M' := mX3_dotUpwards) (mc' := 0) (ms' := 0) (As := [.int q]) dX5_about_117 gX5_about_X3_dotUpwards okX3_dotUpwards rfl rfl (hK.2.2.2.2.2.1 j hj).1 rfl (Nat.le_of_ble_eq_true rfl) (Nat.le_of_ble_eq_true rfl) (Nat.le_refl _) (Nat.le_refl _) (Nat.le_refl _) ?_
        refine kX3_dotUpwards hK.2.1 (hK.2.2.2.2.2.1 j hj) (hz _ hj) ?_
        show xV _ _ _ _ _ _ _ _ _ _ _ _ _
        refine x_goto (tgt := 125) dX5_about_120 (by decide) ?_
        exact x_ls rfl (by first | rfl | (rw [if_neg hc_111] <;> rfl) | (simp only [if_neg hc_111]; rfl) | (simp only [if_neg hc_111])) J125
    have z_25_0 : Int32.toInt (w) ≠ 0 := fun q => hs_25_0 (Int32.toInt_inj.mp (by rw [q]; rfl))
    have z_25_1 : Int32.toInt (w) ≠ 1 := fun q => hs_25_1 (Int32.toInt_inj.mp (by rw [q]; rfl))
    have z_25_2 : Int32.toInt (w) ≠ 2 := fun q => hs_25_2 (Int32.toInt_inj.mp (by rw [q]; rfl))
    have z_25_3 : Int32.toInt (w) ≠ 3 := fun q => hs_25_3 (Int32.toInt_inj.mp (by rw [q]; rfl))
    have z_25_4 : Int32.toInt (w) ≠ 4 := fun q => hs_25_4 (Int32.toInt_inj.mp (by rw [q]; rfl))
    refine x_tout (tgt := 126) dX5_about_25 (by omega) (by decide) ?_
    refine x_ldc (v := (-2000000000)) dX5_about_126 (by decide +kernel) ?_
    exact x_iret dX5_about_128 rfl (xri (by unfold FX5_aboutJ; rw [if_neg hc_18, if_neg hs_25_0, if_neg hs_25_1, if_neg hs_25_2, if_neg hs_25_3, if_neg hs_25_4]) hQ)
  · refine x_ldc (v := (-2000000000)) dX5_about_21 (by decide +kernel) ?_
    exact x_iret dX5_about_23 rfl (xri (by unfold FX5_aboutJ; rw [if_pos hc_18]) hQ)
def FX5_aboutN (p : xPv) (n : Int32) (U : Nat → Nat → Int32) (N : Nat) (I : Nat → xSi) (V : Nat → Nat → Nat → Int32) (s q w : Int32) : Int32 := (-2000000000 : Int32)
set_option maxHeartbeats 4000000 in
set_option maxRecDepth 100000 in
theorem kX5_aboutN {G : xG} {l : Launch} {d : Nat} {h : xH} {Q : Option Value → xH → Prop} {sc pg sx sy al ed : Nat} {C : Nat → Nat} {B : Nat → Nat → Nat} {p : xPv} {n : Int32} {U : Nat → Nat → Int32} {md : Int32} {N : Nat} {I : Nat → xSi} {V : Nat → Nat → Nat → Int32} {s q w : Int32}  (hK : xCls G sc pg sx sy al ed C B p n U md N I V h) (hs : s < 0 ∨ nI N ≤ s)  (hQ : Q (some (.int (FX5_aboutN p n U N I V s q w))) h) : xV G l mX5_about (d + 4) 0 0 0 0 0 [.ref sc, .int s, .int q, .int w, xU] [] h Q := by
  refine x_aload_n dX5_about_0 rfl ?_
  refine x_iload_n dX5_about_1 rfl ?_
  refine x_callV (M' := mX5_seriesOf) (mc' := 0) (ms' := 0) (As := [.int s]) dX5_about_2 gX5_about_X5_seriesOf okX5_seriesOf rfl rfl hK.1 rfl (Nat.le_of_ble_eq_true rfl) (Nat.le_of_ble_eq_true rfl) (Nat.le_refl _) (Nat.le_refl _) (Nat.le_refl _) ?_
  refine kX5_seriesOfN hK hs ?_
  show xV _ _ _ _ _ _ _ _ _ _ _ _ _
  refine x_astoreN dX5_about_5 (by decide) rfl ?_
  refine x_aloadN dX5_about_7 rfl ?_
  refine x_ifnullN (tgt := 21) dX5_about_9 (by decide) ?_
  refine x_ldc (v := (-2000000000)) dX5_about_21 (by decide +kernel) ?_
  exact x_iret dX5_about_23 rfl (xri (by unfold FX5_aboutN; rfl) hQ)
def FX5_fiveJ (p : xPv) (n : Int32) (U : Nat → Nat → Int32) (N : Nat) (I : Nat → xSi) (V : Nat → Nat → Nat → Int32) (j : Nat) (k : Int32) : Int32 := (if (FX5_within k (0 : Int32) (4 : Int32)) = 0 then (-2000000000 : Int32) else (if (FX3_points (I j) (V j)) = 0 then (-2000000000 : Int32) else (FX3_heightAtRank (I j) (V j) ((k * ((FX3_points (I j) (V j)) - (1 : Int32))) / (4 : Int32)))))
set_option maxHeartbeats 4000000 in
set_option maxRecDepth 100000 in
theorem kX5_fiveJ {G : xG} {l : Launch} {d : Nat} {h : xH} {Q : Option Value → xH → Prop} {sc pg sx sy al ed : Nat} {C : Nat → Nat} {B : Nat → Nat → Nat} {p : xPv} {n : Int32} {U : Nat → Nat → Int32} {md : Int32} {N : Nat} {I : Nat → xSi} {V : Nat → Nat → Nat → Int32} {j : Nat} {k : Int32}  (hK : xCls G sc pg sx sy al ed C B p n U md N I V h) (hj : j < N) (hz : ∀ k, k < N → (I k).2.2.2.1 ≤ 24)  (hQ : Q (some (.int (FX5_fiveJ p n U N I V j k))) h) : xV G l mX5_five (d + 4) 0 0 0 0 0 [.ref sc, .int (nI j), .int k, xU, xU] [] h Q := by
  refine x_aload_n dX5_five_0 rfl ?_
  refine x_iload_n dX5_five_1 rfl ?_
  refine x_callV (M' := mX5_seriesOf) (mc' := 0) (ms' := 0) (As := [.int (nI j)]) dX5_five_2 gX5_five_X5_seriesOf okX5_seriesOf rfl rfl hK.1 rfl (Nat.le_of_ble_eq_true rfl) (Nat.le_of_ble_eq_true rfl) (Nat.le_refl _) (Nat.le_refl _) (Nat.le_refl _) ?_
  refine kX5_seriesOf hK hj ?_
  show xV _ _ _ _ _ _ _ _ _ _ _ _ _
  refine x_astore_n dX5_five_5 (by decide) rfl ?_
  refine x_aload_n dX5_five_6 rfl ?_
  refine x_ifnull dX5_five_7 ?_
  refine x_iload_n dX5_five_10 rfl ?_
  refine x_iconst (v := 0) dX5_five_11 (by decide) ?_
  refine x_iconst (v := 4) dX5_five_12 (by decide) ?_
  refine x_callS (M' := mX5_within) (mc' := 0) (ms' := 0) (As := [.int k, .int (0 : Int32), .int (4 : Int32)]) dX5_five_13 gX5_five_X5_within okX5_within rfl rfl (Nat.le_of_ble_eq_true rfl) (Nat.le_of_ble_eq_true rfl) (Nat.le_refl _) (Nat.le_refl _) (Nat.le_refl _) ?_
  refine kX5_within  ?_
  show xV _ _ _ _ _ _ _ _ _ _ _ _ _
  refine x_if_ne (tgt := 22) dX5_five_16 (by decide) (fun hc_16 => ?_) (fun hc_16 => ?_)
  · refine x_aload_n dX5_five_22 rfl ?_
    refine x_callV (M' := mX3_points) (mc' := 0) (ms' := 0) (As := []) dX5_five_23 gX5_five_X3_points okX3_points rfl rfl (hK.2.2.2.2.2.1 j hj).1 rfl (Nat.le_of_ble_eq_true rfl) (Nat.le_of_ble_eq_true rfl) (Nat.le_refl _) (Nat.le_refl _) (Nat.le_refl _) ?_
    refine kX3_points (hK.2.2.2.2.2.1 j hj) (hz _ hj) ?_
    show xV _ _ _ _ _ _ _ _ _ _ _ _ _
    refine x_istore dX5_five_26 (by decide) rfl ?_
    refine x_iload dX5_five_28 rfl ?_
    have J50 : xV G l mX5_five (d + 4) 0 0 0 0 50 [.ref sc, .int (nI j), .int k, .ref (B j 0), .int (FX3_points (I j) (V j))] [.int (if (FX3_points (I j) (V j)) = 0 then (-2000000000 : Int32) else (FX3_heightAtRank (I j) (V j) ((k * ((FX3_points (I j) (V j)) - (1 : Int32))) / (4 : Int32))))] h Q := by
      exact x_iret dX5_five_50 rfl (xri (by unfold FX5_fiveJ; rw [if_neg hc_16]) hQ)
    refine x_if_ne (tgt := 38) dX5_five_30 (by decide) (fun hc_30 => ?_) (fun hc_30 => ?_)
    · refine x_aload_n dX5_five_38 rfl ?_
      refine x_iload_n dX5_five_39 rfl ?_
      refine x_iload dX5_five_40 rfl ?_
      refine x_iconst (v := 1) dX5_five_42 (by decide) ?_
      refine x_isub dX5_five_43 ?_
      refine x_imul dX5_five_44 ?_
      refine x_iconst (v := 4) dX5_five_45 (by decide) ?_
      refine x_idiv dX5_five_46 (by decide) ?_
      refine x_callV (M' := mX3_heightAtRank) (mc' := 0) (ms' := 0) (As := [.int ((k * ((FX3_points (I j) (V j)) - (1 : Int32))) / (4 : Int32))]) dX5_five_47 gX5_five_X3_heightAtRank okX3_heightAtRank rfl rfl (hK.2.2.2.2.2.1 j hj).1 rfl (Nat.le_of_ble_eq_true rfl) (Nat.le_of_ble_eq_true rfl) (Nat.le_refl _) (Nat.le_refl _) (Nat.le_refl _) ?_
      refine kX3_heightAtRank (hK.2.2.2.2.2.1 j hj) (hz _ hj) ?_
      show xV _ _ _ _ _ _ _ _ _ _ _ _ _
      exact x_ls rfl (by first | rfl | (rw [if_neg hc_30] <;> rfl) | (simp only [if_neg hc_30]; rfl) | (simp only [if_neg hc_30])) J50
    · refine x_ldc (v := (-2000000000)) dX5_five_33 (by decide +kernel) ?_
      refine x_goto (tgt := 50) dX5_five_35 (by decide) ?_
      exact x_ls rfl (by first | rfl | (rw [if_pos hc_30] <;> rfl) | (simp only [if_pos hc_30]; rfl) | (simp only [if_pos hc_30])) J50
  · refine x_ldc (v := (-2000000000)) dX5_five_19 (by decide +kernel) ?_
    exact x_iret dX5_five_21 rfl (xri (by unfold FX5_fiveJ; rw [if_pos hc_16]) hQ)
def FX5_fiveN (p : xPv) (n : Int32) (U : Nat → Nat → Int32) (N : Nat) (I : Nat → xSi) (V : Nat → Nat → Nat → Int32) (s k : Int32) : Int32 := (-2000000000 : Int32)
set_option maxHeartbeats 4000000 in
set_option maxRecDepth 100000 in
theorem kX5_fiveN {G : xG} {l : Launch} {d : Nat} {h : xH} {Q : Option Value → xH → Prop} {sc pg sx sy al ed : Nat} {C : Nat → Nat} {B : Nat → Nat → Nat} {p : xPv} {n : Int32} {U : Nat → Nat → Int32} {md : Int32} {N : Nat} {I : Nat → xSi} {V : Nat → Nat → Nat → Int32} {s k : Int32}  (hK : xCls G sc pg sx sy al ed C B p n U md N I V h) (hs : s < 0 ∨ nI N ≤ s)  (hQ : Q (some (.int (FX5_fiveN p n U N I V s k))) h) : xV G l mX5_five (d + 4) 0 0 0 0 0 [.ref sc, .int s, .int k, xU, xU] [] h Q := by
  refine x_aload_n dX5_five_0 rfl ?_
  refine x_iload_n dX5_five_1 rfl ?_
  refine x_callV (M' := mX5_seriesOf) (mc' := 0) (ms' := 0) (As := [.int s]) dX5_five_2 gX5_five_X5_seriesOf okX5_seriesOf rfl rfl hK.1 rfl (Nat.le_of_ble_eq_true rfl) (Nat.le_of_ble_eq_true rfl) (Nat.le_refl _) (Nat.le_refl _) (Nat.le_refl _) ?_
  refine kX5_seriesOfN hK hs ?_
  show xV _ _ _ _ _ _ _ _ _ _ _ _ _
  refine x_astore_nN dX5_five_5 (by decide) rfl ?_
  refine x_aload_nN dX5_five_6 rfl ?_
  refine x_ifnullN (tgt := 19) dX5_five_7 (by decide) ?_
  refine x_ldc (v := (-2000000000)) dX5_five_19 (by decide +kernel) ?_
  exact x_iret dX5_five_21 rfl (xri (by unfold FX5_fiveN; rfl) hQ)
