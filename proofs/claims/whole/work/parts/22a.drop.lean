def rmI (I : xSi) : xSi := (I.1, I.2.1, I.2.2.1, (if 0 < I.2.2.2.1 - 1 then I.2.2.2.1 - 1 else 0), 1)
set_option maxHeartbeats 4000000 in
set_option maxRecDepth 100000 in
theorem kX5_dropJ {G : xG} {l : Launch} {d : Nat} {h : xH} {Q : Option Value → xH → Prop} {sc pg sx sy al ed : Nat} {C : Nat → Nat} {B : Nat → Nat → Nat} {p : xPv} {Ln : Nat} {U : Nat → Nat → Int32} {md : Int32} {N : Nat} {I : Nat → xSi} {V : Nat → Nat → Nat → Int32} {j : Nat} (hK : xCls G sc pg sx sy al ed C B p (nI Ln) U md N I V h) (hD : xDs sc pg sx sy al ed C B) (hj : j < N) (hLn : Ln ≤ 20) (hQ : if 0 < (I j).2.2.2.1 then (∀ h', xCls G sc pg sx sy al ed C B p (nI (LX0_rm (nI j) (rmI (I j)).2.2.2.1 Ln 0 0 U).1) (LX0_rm (nI j) (rmI (I j)).2.2.2.1 Ln 0 0 U).2 md N (va_up I j (rmI (I j))) V h' → xfrK sc pg sx sy al ed C B h h' → Q (some (.int (rmI (I j)).2.2.2.1)) h') else Q (some (.int (-2))) h) : xV G l mX5_drop (d + 4) 0 0 0 0 0 [.ref sc, .int (nI j), xU] [] h Q := by
  refine x_aload_n dX5_drop_0 rfl ?_
  refine x_iload_n dX5_drop_1 rfl ?_
  refine x_callV (M' := mX5_seriesOf) (mc' := 0) (ms' := 0) (As := [.int (nI j)]) dX5_drop_2 gX5_drop_X5_seriesOf okX5_seriesOf rfl rfl hK.1 rfl (Nat.le_of_ble_eq_true rfl) (Nat.le_of_ble_eq_true rfl) (Nat.le_refl _) (Nat.le_refl _) (Nat.le_refl _) ?_
  refine kX5_seriesOf hK hj ?_
  show xV _ _ _ _ _ _ _ _ _ _ _ _ _
  refine x_astore_n dX5_drop_5 (by decide) rfl ?_
  refine x_aload_n dX5_drop_6 rfl ?_
  refine x_ifnonnull (tgt := 12) dX5_drop_7 (by decide) ?_
  refine x_aload_n dX5_drop_12 rfl ?_
  refine x_get 3 dX5_drop_13 (hK.2.2.2.2.2.1 j hj).1 rfl (by decide) (by decide +kernel) rfl ?_
  refine x_if_gt (tgt := 22) dX5_drop_16 (by decide) (fun hc_16 => ?_) (fun hc_16 => ?_)
  · refine x_aload_n dX5_drop_22 rfl ?_
    refine x_callV (M' := mX3_removeLatest) (mc' := 0) (ms' := 0) (As := []) dX5_drop_23 gX5_drop_X3_removeLatest okX3_removeLatest rfl rfl (hK.2.2.2.2.2.1 j hj).1 rfl (Nat.le_of_ble_eq_true rfl) (Nat.le_of_ble_eq_true rfl) (Nat.le_refl _) (Nat.le_refl _) (Nat.le_refl _) ?_
    refine kX3_removeLatest (hK.2.2.2.2.2.1 j hj) ?_
    have hS2 := (hK.2.2.2.2.2.1 j hj).up0 (I' := rmI (I j)) (hD.b j)
    have hK2 := hK.ser hD (j := j) (h' := xup h (B j 0) (xSo (B j) pg (rmI (I j)))) (fun a ha => xup_n (ha 0)) hS2
    rw [xups] at hK2
    show xV _ _ _ _ _ _ _ _ _ _ _ _ _
    refine x_aload_n dX5_drop_26 rfl ?_
    refine x_get 2 dX5_drop_27 hK2.1 rfl (by decide) (by decide +kernel) rfl ?_
    refine x_iload_n dX5_drop_30 rfl ?_
    refine x_aload_n dX5_drop_31 rfl ?_
    refine x_get 3 dX5_drop_32 hS2.1 rfl (by decide) (by decide +kernel) rfl ?_
    refine x_callV (M' := mX0_removeThoseAt) (mc' := 0) (ms' := 0) (As := [.int (nI j), .int ((rmI (I j)).2.2.2.1)]) dX5_drop_35 gX5_drop_X0_removeThoseAt okX0_removeThoseAt rfl rfl hK2.2.2.1.1 rfl (Nat.le_of_ble_eq_true rfl) (Nat.le_of_ble_eq_true rfl) (Nat.le_refl _) (Nat.le_refl _) (Nat.le_refl _) ?_
    refine kX0_removeThoseAt hK2.2.2.1 hD.2.2.2.1 hLn (fun h3 hL3 hF3 => ?_)
    have hS3 := (hF3 (B j 0) (fun i => hD.2.1 j 0 i)).trans hS2.1
    have hK3 := hK2.lab hD hF3 hL3
    show xV _ _ _ _ _ _ _ _ _ _ _ _ _
    refine x_aload_n dX5_drop_38 rfl ?_
    refine x_get 3 dX5_drop_39 hS3 rfl (by decide) (by decide +kernel) rfl ?_
    rw [if_pos hc_16] at hQ
    exact x_iret dX5_drop_42 rfl (hQ _ hK3 (fun a9 eB eC _ _ _ _ _ _ => (hF3 a9 eC).trans (xup_n (eB j 0))))
  · refine x_bipush (v := (-2)) dX5_drop_19 (by decide) ?_
    rw [if_neg hc_16] at hQ
    exact x_iret dX5_drop_21 rfl hQ
set_option maxHeartbeats 4000000 in
set_option maxRecDepth 100000 in
theorem kX3_cells {G : xG} {l : Launch} {d : Nat} {h : xH} {Q : Option Value → xH → Prop} {pg sx sy : Nat} {p : xPv} {B : Nat → Nat} {I : xSi} {V : Nat → Nat → Int32} (hP : xPg pg sx sy p h) (hS : xSer G B pg I V h) (hz : I.2.2.2.1 ≤ 24) (hB : ∀ {i j : Nat}, i ≠ j → B i ≠ B j) (hn : ∀ i, B i ≠ pg ∧ B i ≠ sx ∧ B i ≠ sy) (hok : ∀ j : Nat, j < (I.2.2.2.1).toNatClampNeg → ¬ FX3_isSeen p I V (nI j) = 0 → drOk p I V (nI j)) (hfr : I.2.2.2.2 = 0 → FX3_draw p I V = (V 6, V 7)) (hQ : ∀ h', xSer G B pg (st0 I) (fV p I V) h' → xfr0 B h h' → Q (some (.int (FX4_cellsHit (fV p I V)))) h') : xV G l mX3_cells (d + 5) 0 0 0 0 0 [.ref (B 0)] [] h Q := by
  refine x_aload_n dX3_cells_0 rfl ?_
  refine x_callV (M' := mX3_drawIfStale) (mc' := 0) (ms' := 0) (As := []) dX3_cells_1 gX3_cells_X3_drawIfStale okX3_drawIfStale rfl rfl hS.1 rfl (Nat.le_of_ble_eq_true rfl) (Nat.le_of_ble_eq_true rfl) (Nat.le_refl _) (Nat.le_refl _) (Nat.le_refl _) ?_
  refine kX3_drawIfStale hP hS hz hB hn hok (fun hs0 => ?_) (fun hs0 h9 hS9 hF9 => ?_)
  · have e1 : I = st0 I := Prod.ext rfl (Prod.ext rfl (Prod.ext rfl (Prod.ext rfl hs0)))
    have e2 : V = fV p I V := by rw [fV, hfr hs0]; exact (vrow_self V).symm
    have hS : xSer G B pg (st0 I) (fV p I V) h := by rw [← e1, ← e2]; exact hS
    have hF : xfr0 B h h := fun _ _ _ _ => rfl
    refine x_aload_n dX3_cells_4 rfl ?_
    refine x_get 10 dX3_cells_5 hS.1 rfl (by decide) (by decide +kernel) rfl ?_
    refine x_callV (M' := mX4_cellsHit) (mc' := 0) (ms' := 0) (As := []) dX3_cells_8 gX3_cells_X4_cellsHit okX4_cellsHit rfl rfl hS.2.2.2.2.2.1 rfl (Nat.le_of_ble_eq_true rfl) (Nat.le_of_ble_eq_true rfl) (Nat.le_refl _) (Nat.le_refl _) (Nat.le_refl _) ?_
    refine kX4_cellsHit hS ?_
    show xV _ _ _ _ _ _ _ _ _ _ _ _ _
    exact x_iret dX3_cells_11 rfl (hQ _ hS hF)
  · have hS : xSer G B pg (st0 I) (fV p I V) h9 := hS9
    have hF := hF9
    refine x_aload_n dX3_cells_4 rfl ?_
    refine x_get 10 dX3_cells_5 hS.1 rfl (by decide) (by decide +kernel) rfl ?_
    refine x_callV (M' := mX4_cellsHit) (mc' := 0) (ms' := 0) (As := []) dX3_cells_8 gX3_cells_X4_cellsHit okX4_cellsHit rfl rfl hS.2.2.2.2.2.1 rfl (Nat.le_of_ble_eq_true rfl) (Nat.le_of_ble_eq_true rfl) (Nat.le_refl _) (Nat.le_refl _) (Nat.le_refl _) ?_
    refine kX4_cellsHit hS ?_
    show xV _ _ _ _ _ _ _ _ _ _ _ _ _
    exact x_iret dX3_cells_11 rfl (hQ _ hS hF)
set_option maxHeartbeats 4000000 in
set_option maxRecDepth 100000 in
theorem kX5_countJ {G : xG} {l : Launch} {d : Nat} {h : xH} {Q : Option Value → xH → Prop} {sc pg sx sy al ed : Nat} {C : Nat → Nat} {B : Nat → Nat → Nat} {p : xPv} {n : Int32} {U : Nat → Nat → Int32} {md : Int32} {N : Nat} {I : Nat → xSi} {V : Nat → Nat → Nat → Int32} {j : Nat} {w : Int32} (hK : xCls G sc pg sx sy al ed C B p n U md N I V h) (hD : xDs sc pg sx sy al ed C B) (hj : j < N) (hz : ∀ k, k < N → (I k).2.2.2.1 ≤ 24) (hok : ∀ k, k < N → ∀ j : Nat, j < ((I k).2.2.2.1).toNatClampNeg → ¬ FX3_isSeen p (I k) (V k) (nI j) = 0 → drOk p (I k) (V k) (nI j)) (hfr : ∀ k, k < N → (I k).2.2.2.2 = 0 → FX3_draw p (I k) (V k) = (V k 6, V k 7)) (hQ : (if w = 0 then Q (some (.int (I j).2.2.2.1)) h else (if w = 1 then Q (some (.int ((I j).2.2.2.1 - (FX3_points (I j) (V j))))) h else (if w = 2 then Q (some (.int (FX3_runs (I j) (V j)))) h else (if w = 3 then Q (some (.int (FX3_seenPoints p (I j) (V j)))) h else (if w = 4 then (∀ h', xCls G sc pg sx sy al ed C B p n U md N (va_up I j (st0 (I j))) (va_up V j (fV p (I j) (V j))) h' → xfrK sc pg sx sy al ed C B h h' → Q (some (.int (FX4_cellsHit (fV p (I j) (V j))))) h') else Q (some (.int (-1 : Int32))) h)))))) : xV G l mX5_count (d + 6) 0 0 0 0 0 [.ref sc, .int (nI j), .int w, xU] [] h Q := by
  refine x_aload_n dX5_count_0 rfl ?_
  refine x_iload_n dX5_count_1 rfl ?_
  refine x_callV (M' := mX5_seriesOf) (mc' := 0) (ms' := 0) (As := [.int (nI j)]) dX5_count_2 gX5_count_X5_seriesOf okX5_seriesOf rfl rfl hK.1 rfl (Nat.le_of_ble_eq_true rfl) (Nat.le_of_ble_eq_true rfl) (Nat.le_refl _) (Nat.le_refl _) (Nat.le_refl _) ?_
  refine kX5_seriesOf hK hj ?_
  show xV _ _ _ _ _ _ _ _ _ _ _ _ _
  refine x_astore_n dX5_count_5 (by decide) rfl ?_
  refine x_aload_n dX5_count_6 rfl ?_
  refine x_ifnonnull (tgt := 12) dX5_count_7 (by decide) ?_
  refine x_iload_n dX5_count_12 rfl ?_
  by_cases hs_13_0 : w = 0
  · refine x_tcase hs_13_0 (tgt := 48) (off := 35) dX5_count_13 (by decide) (by decide) (by decide) (by decide) ?_
    refine x_aload_n dX5_count_48 rfl ?_
    refine x_get 3 dX5_count_49 (hK.2.2.2.2.2.1 j hj).1 rfl (by decide) (by decide +kernel) rfl ?_
    rw [if_pos hs_13_0] at hQ
    exact x_iret dX5_count_52 rfl hQ
  by_cases hs_13_1 : w = 1
  · refine x_tcase hs_13_1 (tgt := 53) (off := 40) dX5_count_13 (by decide) (by decide) (by decide) (by decide) ?_
    refine x_aload_n dX5_count_53 rfl ?_
    refine x_get 3 dX5_count_54 (hK.2.2.2.2.2.1 j hj).1 rfl (by decide) (by decide +kernel) rfl ?_
    refine x_aload_n dX5_count_57 rfl ?_
    refine x_callV (M' := mX3_points) (mc' := 0) (ms' := 0) (As := []) dX5_count_58 gX5_count_X3_points okX3_points rfl rfl (hK.2.2.2.2.2.1 j hj).1 rfl (Nat.le_of_ble_eq_true rfl) (Nat.le_of_ble_eq_true rfl) (Nat.le_refl _) (Nat.le_refl _) (Nat.le_refl _) ?_
    refine kX3_points (hK.2.2.2.2.2.1 j hj) (hz _ hj) ?_
    show xV _ _ _ _ _ _ _ _ _ _ _ _ _
    refine x_isub dX5_count_61 ?_
    rw [if_neg hs_13_0, if_pos hs_13_1] at hQ
    exact x_iret dX5_count_62 rfl hQ
  by_cases hs_13_2 : w = 2
  · refine x_tcase hs_13_2 (tgt := 63) (off := 50) dX5_count_13 (by decide) (by decide) (by decide) (by decide) ?_
    refine x_aload_n dX5_count_63 rfl ?_
    refine x_callV (M' := mX3_runs) (mc' := 0) (ms' := 0) (As := []) dX5_count_64 gX5_count_X3_runs okX3_runs rfl rfl (hK.2.2.2.2.2.1 j hj).1 rfl (Nat.le_of_ble_eq_true rfl) (Nat.le_of_ble_eq_true rfl) (Nat.le_refl _) (Nat.le_refl _) (Nat.le_refl _) ?_
    refine kX3_runs (hK.2.2.2.2.2.1 j hj) (hz _ hj) ?_
    show xV _ _ _ _ _ _ _ _ _ _ _ _ _
    rw [if_neg hs_13_0, if_neg hs_13_1, if_pos hs_13_2] at hQ
    exact x_iret dX5_count_67 rfl hQ
  by_cases hs_13_3 : w = 3
  · refine x_tcase hs_13_3 (tgt := 68) (off := 55) dX5_count_13 (by decide) (by decide) (by decide) (by decide) ?_
    refine x_aload_n dX5_count_68 rfl ?_
    refine x_callV (M' := mX3_seenPoints) (mc' := 0) (ms' := 0) (As := []) dX5_count_69 gX5_count_X3_seenPoints okX3_seenPoints rfl rfl (hK.2.2.2.2.2.1 j hj).1 rfl (Nat.le_of_ble_eq_true rfl) (Nat.le_of_ble_eq_true rfl) (Nat.le_refl _) (Nat.le_refl _) (Nat.le_refl _) ?_
    refine kX3_seenPoints hK.2.1 (hK.2.2.2.2.2.1 j hj) (hz _ hj) ?_
    show xV _ _ _ _ _ _ _ _ _ _ _ _ _
    rw [if_neg hs_13_0, if_neg hs_13_1, if_neg hs_13_2, if_pos hs_13_3] at hQ
    exact x_iret dX5_count_72 rfl hQ
  by_cases hs_13_4 : w = 4
  · refine x_tcase hs_13_4 (tgt := 73) (off := 60) dX5_count_13 (by decide) (by decide) (by decide) (by decide) ?_
    refine x_aload_n dX5_count_73 rfl ?_
    refine x_callV (M' := mX3_cells) (mc' := 0) (ms' := 0) (As := []) dX5_count_74 gX5_count_X3_cells okX3_cells rfl rfl (hK.2.2.2.2.2.1 j hj).1 rfl (Nat.le_of_ble_eq_true rfl) (Nat.le_of_ble_eq_true rfl) (Nat.le_refl _) (Nat.le_refl _) (Nat.le_refl _) ?_
    refine kX3_cells hK.2.1 (hK.2.2.2.2.2.1 j hj) (hz _ hj) (hD.b j) (fun i => ⟨(hD.2.2.1 j i).2.1, (hD.2.2.1 j i).2.2.1, (hD.2.2.1 j i).2.2.2.1⟩) (hok j hj) (hfr j hj) (fun h1 hS1 hF1 => ?_)
    show xV _ _ _ _ _ _ _ _ _ _ _ _ _
    rw [if_neg hs_13_0, if_neg hs_13_1, if_neg hs_13_2, if_neg hs_13_3, if_pos hs_13_4] at hQ
    exact x_iret dX5_count_77 rfl (hQ _ (hK.ser hD (fun a9 ha => hF1 a9 (ha 0) (ha 6) (ha 7)) hS1) (fun a9 eB _ _ _ _ _ _ _ => hF1 a9 (eB j 0) (eB j 6) (eB j 7)))
  have z_13_0 : Int32.toInt (w) ≠ 0 := fun q => hs_13_0 (Int32.toInt_inj.mp (by rw [q]; rfl))
  have z_13_1 : Int32.toInt (w) ≠ 1 := fun q => hs_13_1 (Int32.toInt_inj.mp (by rw [q]; rfl))
  have z_13_2 : Int32.toInt (w) ≠ 2 := fun q => hs_13_2 (Int32.toInt_inj.mp (by rw [q]; rfl))
  have z_13_3 : Int32.toInt (w) ≠ 3 := fun q => hs_13_3 (Int32.toInt_inj.mp (by rw [q]; rfl))
  have z_13_4 : Int32.toInt (w) ≠ 4 := fun q => hs_13_4 (Int32.toInt_inj.mp (by rw [q]; rfl))
  refine x_tout (tgt := 78) dX5_count_13 (by omega) (by decide) ?_
  refine x_iconst (v := (-1)) dX5_count_78 (by decide) ?_
  rw [if_neg hs_13_0, if_neg hs_13_1, if_neg hs_13_2, if_neg hs_13_3, if_neg hs_13_4] at hQ
  exact x_iret dX5_count_79 rfl hQ
