theorem xCls.page {G : xG} {sc pg sx sy al ed : Nat} {C : Nat → Nat} {B : Nat → Nat → Nat} {p p' : xPv} {n : Int32} {U : Nat → Nat → Int32} {md : Int32} {N : Nat} {I : Nat → xSi} {V : Nat → Nat → Nat → Int32} {h h' : xH} (hK : xCls G sc pg sx sy al ed C B p n U md N I V h) (hD : xDs sc pg sx sy al ed C B) (e1 : ∀ a, a ≠ pg → a ≠ sx → a ≠ sy → h' a = h a) (hP : xPg pg sx sy p' h') : xCls G sc pg sx sy al ed C B p' n U md N I V h' := by
  obtain ⟨k1, k2, k3, k4, k5, k6, k7⟩ := hK
  obtain ⟨d1, d2, d3, d4, d5, d6, d7, d8, d9, d10⟩ := hD
  have hc : ∀ i, h' (C i) = h (C i) := fun i => e1 _ (d5 i).2.1 (d5 i).2.2.1 (d5 i).2.2.2.1
  have hb : ∀ k i, h' (B k i) = h (B k i) := fun k i => e1 _ (d3 k i).2.1 (d3 k i).2.2.1 (d3 k i).2.2.2.1
  refine ⟨by rw [e1 _ d6.1 d6.2.1 d6.2.2.1]; exact k1, hP, ⟨by rw [hc]; exact k3.1, by rw [hc]; exact k3.2.1, by rw [hc]; exact k3.2.2.1, by rw [hc]; exact k3.2.2.2.1, by rw [hc]; exact k3.2.2.2.2.1, by rw [hc]; exact k3.2.2.2.2.2⟩, by rw [e1 _ (Ne.symm d7.2.2.1) (Ne.symm d8.2.1) (Ne.symm d9.1)]; exact k4, fun hN => by rw [e1 _ (Ne.symm d7.2.2.2) (Ne.symm d8.2.2) (Ne.symm d9.2)]; exact k5 hN, fun k hk => ?_, k7⟩
  have h0 := k6 k hk
  exact ⟨by rw [hb]; exact h0.1, by rw [hb]; exact h0.2.1, by rw [hb]; exact h0.2.2.1, by rw [hb]; exact h0.2.2.2.1, by rw [hb]; exact h0.2.2.2.2.1, by rw [hb]; exact h0.2.2.2.2.2.1, by rw [hb]; exact h0.2.2.2.2.2.2.1, by rw [hb]; exact h0.2.2.2.2.2.2.2⟩
theorem xCls.lab {G : xG} {sc pg sx sy al ed : Nat} {C : Nat → Nat} {B : Nat → Nat → Nat} {p : xPv} {n n' : Int32} {U U' : Nat → Nat → Int32} {md : Int32} {N : Nat} {I : Nat → xSi} {V : Nat → Nat → Nat → Int32} {h h' : xH} (hK : xCls G sc pg sx sy al ed C B p n U md N I V h) (hD : xDs sc pg sx sy al ed C B) (e1 : ∀ a, (∀ i, a ≠ C i) → h' a = h a) (hL : xLab G C n' U' h') : xCls G sc pg sx sy al ed C B p n' U' md N I V h' := by
  obtain ⟨k1, k2, k3, k4, k5, k6, k7⟩ := hK
  obtain ⟨d1, d2, d3, d4, d5, d6, d7, d8, d9, d10⟩ := hD
  have hb : ∀ k i, h' (B k i) = h (B k i) := fun k i => e1 _ (fun i' => d2 k i i')
  refine ⟨by rw [e1 _ (fun i => Ne.symm (d5 i).1)]; exact k1, ⟨by rw [e1 _ (fun i => Ne.symm (d5 i).2.1)]; exact k2.1, by rw [e1 _ (fun i => Ne.symm (d5 i).2.2.1)]; exact k2.2.1, by rw [e1 _ (fun i => Ne.symm (d5 i).2.2.2.1)]; exact k2.2.2⟩, hL, by rw [e1 _ (fun i => Ne.symm (d5 i).2.2.2.2.1)]; exact k4, fun hN => by rw [e1 _ (fun i => Ne.symm (d5 i).2.2.2.2.2)]; exact k5 hN, fun k hk => ?_, k7⟩
  have h0 := k6 k hk
  exact ⟨by rw [hb]; exact h0.1, by rw [hb]; exact h0.2.1, by rw [hb]; exact h0.2.2.1, by rw [hb]; exact h0.2.2.2.1, by rw [hb]; exact h0.2.2.2.2.1, by rw [hb]; exact h0.2.2.2.2.2.1, by rw [hb]; exact h0.2.2.2.2.2.2.1, by rw [hb]; exact h0.2.2.2.2.2.2.2⟩
set_option maxHeartbeats 4000000 in
set_option maxRecDepth 100000 in
theorem kX5_at {G : xG} {l : Launch} {d : Nat} {h : xH} {Q : Option Value → xH → Prop} {sc pg sx sy al ed : Nat} {C : Nat → Nat} {B : Nat → Nat → Nat} {p : xPv} {n : Int32} {U : Nat → Nat → Int32} {md : Int32} {N : Nat} {I : Nat → xSi} {V : Nat → Nat → Nat → Int32} {x y : Int32} (hK : xCls G sc pg sx sy al ed C B p n U md N I V h) (hD : xDs sc pg sx sy al ed C B) (hz : ∀ k, k < N → (I k).2.2.2.1 ≤ 24) (hok : ∀ k, k < N → ∀ j : Nat, j < ((I k).2.2.2.1).toNatClampNeg → ¬ FX3_isSeen p (I k) (V k) (nI j) = 0 → drOk p (I k) (V k) (nI j)) (hfr : ∀ k, k < N → (I k).2.2.2.2 = 0 → FX3_draw p (I k) (V k) = (V k 6, V k 7)) {I9 : Nat → xSi} {V9 : Nat → Nat → Nat → Int32} (eI : I9 = fun k => st0 (I k)) (eV : V9 = fun k => fV p (I k) (V k)) (hn20 : n ≤ 20)  (hQ0 : FX1_has p x y = 0 → Q (some (.int (-1))) h) (hQ : ¬ FX1_has p x y = 0 → ∀ h', xCls G sc pg sx sy al ed C B p n U md N I9 V9 h' → xfrC B h h' → Q (some (.int (FX5_signOf p n U N I9 V9 x y))) h') : xV G l mX5_at (d + 6) 0 0 0 0 0 [.ref sc, .int x, .int y] [] h Q := by
  refine x_aload_n dX5_at_0 rfl ?_
  refine x_get 0 dX5_at_1 hK.1 rfl (by decide) (by decide +kernel) rfl ?_
  refine x_iload_n dX5_at_4 rfl ?_
  refine x_iload_n dX5_at_5 rfl ?_
  refine x_callV (M' := mX1_has) (mc' := 0) (ms' := 0) (As := [.int x, .int y]) dX5_at_6 gX5_at_X1_has okX1_has rfl rfl hK.2.1.1 rfl (Nat.le_of_ble_eq_true rfl) (Nat.le_of_ble_eq_true rfl) (Nat.le_refl _) (Nat.le_refl _) (Nat.le_refl _) ?_
  refine kX1_has hK.2.1 ?_
  show xV _ _ _ _ _ _ _ _ _ _ _ _ _
  refine x_if_ne (tgt := 14) dX5_at_9 (by decide) (fun hc_9 => ?_) (fun hc_9 => ?_)
  · refine x_aload_n dX5_at_14 rfl ?_
    refine x_callV (M' := mX5_drawStale) (mc' := 0) (ms' := 0) (As := []) dX5_at_15 gX5_at_X5_drawStale okX5_drawStale rfl rfl hK.1 rfl (Nat.le_of_ble_eq_true rfl) (Nat.le_of_ble_eq_true rfl) (Nat.le_refl _) (Nat.le_refl _) (Nat.le_refl _) ?_
    refine kX5_drawStale hK hD hz hok hfr (fun h1 hK1 hF1 => ?_)
    rw [← eI, ← eV] at hK1
    clear hK
    have hK := hK1
    show xV _ _ _ _ _ _ _ _ _ _ _ _ _
    refine x_aload_n dX5_at_18 rfl ?_
    refine x_iload_n dX5_at_19 rfl ?_
    refine x_iload_n dX5_at_20 rfl ?_
    refine x_callV (M' := mX5_signOf) (mc' := 0) (ms' := 0) (As := [.int x, .int y]) dX5_at_21 gX5_at_X5_signOf okX5_signOf rfl rfl hK.1 rfl (Nat.le_of_ble_eq_true rfl) (Nat.le_of_ble_eq_true rfl) (Nat.le_refl _) (Nat.le_refl _) (Nat.le_refl _) ?_
    refine kX5_signOf hK hn20 ?_
    show xV _ _ _ _ _ _ _ _ _ _ _ _ _
    exact x_iret dX5_at_24 rfl (hQ hc_9 _ hK1 hF1)
  · refine x_iconst (v := (-1)) dX5_at_12 (by decide) ?_
    exact x_iret dX5_at_13 rfl (hQ0 hc_9)
set_option maxHeartbeats 4000000 in
set_option maxRecDepth 100000 in
theorem kX5_shown {G : xG} {l : Launch} {d : Nat} {h : xH} {Q : Option Value → xH → Prop} {sc pg sx sy al ed : Nat} {C : Nat → Nat} {B : Nat → Nat → Nat} {p : xPv} {n : Int32} {U : Nat → Nat → Int32} {md : Int32} {N : Nat} {I : Nat → xSi} {V : Nat → Nat → Nat → Int32} {x y : Int32} (hK : xCls G sc pg sx sy al ed C B p n U md N I V h) (hD : xDs sc pg sx sy al ed C B) (hz : ∀ k, k < N → (I k).2.2.2.1 ≤ 24) (hok : ∀ k, k < N → ∀ j : Nat, j < ((I k).2.2.2.1).toNatClampNeg → ¬ FX3_isSeen p (I k) (V k) (nI j) = 0 → drOk p (I k) (V k) (nI j)) (hfr : ∀ k, k < N → (I k).2.2.2.2 = 0 → FX3_draw p (I k) (V k) = (V k 6, V k 7)) {I9 : Nat → xSi} {V9 : Nat → Nat → Nat → Int32} (eI : I9 = fun k => st0 (I k)) (eV : V9 = fun k => fV p (I k) (V k)) (hn20 : n ≤ 20)  (hQ0 : FX1_has p x y = 0 → Q (some (.int (-1))) h) (hQ1 : ¬ FX1_has p x y = 0 → ¬ FX0_covering n U x y = -9 → Q (some (.int (10 + FX0_covering n U x y))) h) (hQ : ¬ FX1_has p x y = 0 → FX0_covering n U x y = -9 → ∀ h', xCls G sc pg sx sy al ed C B p n U md N I9 V9 h' → xfrC B h h' → Q (some (.int (FX5_latestIn N I9 V9 (FX1_cellAt p x y)))) h') : xV G l mX5_shown (d + 6) 0 0 0 0 0 [.ref sc, .int x, .int y, xU] [] h Q := by
  refine x_aload_n dX5_shown_0 rfl ?_
  refine x_get 0 dX5_shown_1 hK.1 rfl (by decide) (by decide +kernel) rfl ?_
  refine x_iload_n dX5_shown_4 rfl ?_
  refine x_iload_n dX5_shown_5 rfl ?_
  refine x_callV (M' := mX1_has) (mc' := 0) (ms' := 0) (As := [.int x, .int y]) dX5_shown_6 gX5_shown_X1_has okX1_has rfl rfl hK.2.1.1 rfl (Nat.le_of_ble_eq_true rfl) (Nat.le_of_ble_eq_true rfl) (Nat.le_refl _) (Nat.le_refl _) (Nat.le_refl _) ?_
  refine kX1_has hK.2.1 ?_
  show xV _ _ _ _ _ _ _ _ _ _ _ _ _
  refine x_if_ne (tgt := 14) dX5_shown_9 (by decide) (fun hc_9 => ?_) (fun hc_9 => ?_)
  · refine x_aload_n dX5_shown_14 rfl ?_
    refine x_get 2 dX5_shown_15 hK.1 rfl (by decide) (by decide +kernel) rfl ?_
    refine x_iload_n dX5_shown_18 rfl ?_
    refine x_iload_n dX5_shown_19 rfl ?_
    refine x_callV (M' := mX0_covering) (mc' := 0) (ms' := 0) (As := [.int x, .int y]) dX5_shown_20 gX5_shown_X0_covering okX0_covering rfl rfl hK.2.2.1.1 rfl (Nat.le_of_ble_eq_true rfl) (Nat.le_of_ble_eq_true rfl) (Nat.le_refl _) (Nat.le_refl _) (Nat.le_refl _) ?_
    refine kX0_covering hK.2.2.1 hn20 ?_
    show xV _ _ _ _ _ _ _ _ _ _ _ _ _
    refine x_istore_n dX5_shown_23 (by decide) rfl ?_
    refine x_iload_n dX5_shown_24 rfl ?_
    refine x_bipush (v := (-9)) dX5_shown_25 (by decide) ?_
    refine x_icmp_eq (tgt := 35) dX5_shown_27 (by decide) (fun hc_27 => ?_) (fun hc_27 => ?_)
    · refine x_aload_n dX5_shown_35 rfl ?_
      refine x_callV (M' := mX5_drawStale) (mc' := 0) (ms' := 0) (As := []) dX5_shown_36 gX5_shown_X5_drawStale okX5_drawStale rfl rfl hK.1 rfl (Nat.le_of_ble_eq_true rfl) (Nat.le_of_ble_eq_true rfl) (Nat.le_refl _) (Nat.le_refl _) (Nat.le_refl _) ?_
      refine kX5_drawStale hK hD hz hok hfr (fun h1 hK1 hF1 => ?_)
      rw [← eI, ← eV] at hK1
      clear hK
      have hK := hK1
      show xV _ _ _ _ _ _ _ _ _ _ _ _ _
      refine x_aload_n dX5_shown_39 rfl ?_
      refine x_aload_n dX5_shown_40 rfl ?_
      refine x_get 0 dX5_shown_41 hK.1 rfl (by decide) (by decide +kernel) rfl ?_
      refine x_iload_n dX5_shown_44 rfl ?_
      refine x_iload_n dX5_shown_45 rfl ?_
      refine x_callV (M' := mX1_cellAt) (mc' := 0) (ms' := 0) (As := [.int x, .int y]) dX5_shown_46 gX5_shown_X1_cellAt okX1_cellAt rfl rfl hK.2.1.1 rfl (Nat.le_of_ble_eq_true rfl) (Nat.le_of_ble_eq_true rfl) (Nat.le_refl _) (Nat.le_refl _) (Nat.le_refl _) ?_
      refine kX1_cellAt hK.2.1 ?_
      show xV _ _ _ _ _ _ _ _ _ _ _ _ _
      refine x_callV (M' := mX5_latestIn) (mc' := 0) (ms' := 0) (As := [.int (FX1_cellAt p x y)]) dX5_shown_49 gX5_shown_X5_latestIn okX5_latestIn rfl rfl hK.1 rfl (Nat.le_of_ble_eq_true rfl) (Nat.le_of_ble_eq_true rfl) (Nat.le_refl _) (Nat.le_refl _) (Nat.le_refl _) ?_
      refine kX5_latestIn hK ?_
      show xV _ _ _ _ _ _ _ _ _ _ _ _ _
      exact x_iret dX5_shown_52 rfl (hQ hc_9 hc_27 _ hK1 hF1)
    · refine x_bipush (v := 10) dX5_shown_30 (by decide) ?_
      refine x_iload_n dX5_shown_32 rfl ?_
      refine x_iadd dX5_shown_33 ?_
      exact x_iret dX5_shown_34 rfl (hQ1 hc_9 hc_27)
  · refine x_iconst (v := (-1)) dX5_shown_12 (by decide) ?_
    exact x_iret dX5_shown_13 rfl (hQ0 hc_9)
set_option maxHeartbeats 4000000 in
set_option maxRecDepth 100000 in
theorem kX5_inked {G : xG} {l : Launch} {d : Nat} {h : xH} {Q : Option Value → xH → Prop} {sc pg sx sy al ed : Nat} {C : Nat → Nat} {B : Nat → Nat → Nat} {p : xPv} {n : Int32} {U : Nat → Nat → Int32} {md : Int32} {N : Nat} {I : Nat → xSi} {V : Nat → Nat → Nat → Int32} (hK : xCls G sc pg sx sy al ed C B p n U md N I V h) (hD : xDs sc pg sx sy al ed C B) (hz : ∀ k, k < N → (I k).2.2.2.1 ≤ 24) (hok : ∀ k, k < N → ∀ j : Nat, j < ((I k).2.2.2.1).toNatClampNeg → ¬ FX3_isSeen p (I k) (V k) (nI j) = 0 → drOk p (I k) (V k) (nI j)) (hfr : ∀ k, k < N → (I k).2.2.2.2 = 0 → FX3_draw p (I k) (V k) = (V k 6, V k 7)) {I9 : Nat → xSi} {V9 : Nat → Nat → Nat → Int32} (eI : I9 = fun k => st0 (I k)) (eV : V9 = fun k => fV p (I k) (V k)) (hn20 : n ≤ 20)  (hp1 : p.1 = nI p.1.toNatClampNeg) (hp2 : p.2.1 = nI p.2.1.toNatClampNeg) (hp3 : p.1.toNatClampNeg < 100) (hp4 : p.2.1.toNatClampNeg < 100) (hQ : ∀ h', xCls G sc pg sx sy al ed C B p n U md N I9 V9 h' → xfrC B h h' → Q (some (.int (FX5_coveredWithin p n U N I9 V9 0 0 p.1.toNatClampNeg p.2.1.toNatClampNeg))) h') : xV G l mX5_inked (d + 6) 0 0 0 0 0 [.ref sc] [] h Q := by
  refine x_aload_n dX5_inked_0 rfl ?_
  refine x_callV (M' := mX5_drawStale) (mc' := 0) (ms' := 0) (As := []) dX5_inked_1 gX5_inked_X5_drawStale okX5_drawStale rfl rfl hK.1 rfl (Nat.le_of_ble_eq_true rfl) (Nat.le_of_ble_eq_true rfl) (Nat.le_refl _) (Nat.le_refl _) (Nat.le_refl _) ?_
  refine kX5_drawStale hK hD hz hok hfr (fun h1 hK1 hF1 => ?_)
  rw [← eI, ← eV] at hK1
  clear hK
  have hK := hK1
  show xV _ _ _ _ _ _ _ _ _ _ _ _ _
  refine x_aload_n dX5_inked_4 rfl ?_
  refine x_iconst (v := 0) dX5_inked_5 (by decide) ?_
  refine x_iconst (v := 0) dX5_inked_6 (by decide) ?_
  refine x_aload_n dX5_inked_7 rfl ?_
  refine x_get 0 dX5_inked_8 hK.1 rfl (by decide) (by decide +kernel) rfl ?_
  refine x_get 0 dX5_inked_11 hK.2.1.1 rfl (by decide) (by decide +kernel) rfl ?_
  refine x_aload_n dX5_inked_14 rfl ?_
  refine x_get 0 dX5_inked_15 hK.1 rfl (by decide) (by decide +kernel) rfl ?_
  refine x_get 1 dX5_inked_18 hK.2.1.1 rfl (by decide) (by decide +kernel) rfl ?_
  refine x_callV (M' := mX5_coveredWithin) (mc' := 0) (ms' := 0) (As := [.int (0 : Int32), .int (0 : Int32), .int p.1, .int p.2.1]) dX5_inked_21 gX5_inked_X5_coveredWithin okX5_coveredWithin rfl rfl hK.1 rfl (Nat.le_of_ble_eq_true rfl) (Nat.le_of_ble_eq_true rfl) (Nat.le_refl _) (Nat.le_refl _) (Nat.le_refl _) ?_
  refine x_ls (L' := [.ref sc, .int (nI 0), .int (nI 0), .int (nI p.1.toNatClampNeg), .int (nI p.2.1.toNatClampNeg), xU, xU, xU]) (by show [_, _, _, _, _, _, _, _] = [_, _, _, _, _, _, _, _]; rw [← hp1, ← hp2]; rfl) rfl ?_
  refine kX5_coveredWithin hK hn20 (by omega) (by omega) ?_
  show xV _ _ _ _ _ _ _ _ _ _ _ _ _
  exact x_iret dX5_inked_24 rfl (hQ _ hK1 hF1)
