/-- but for the class's own cells nothing has changed -/
def xfrK (sc pg sx sy al ed : Nat) (C : Nat → Nat) (B : Nat → Nat → Nat) (h h' : xH) : Prop := ∀ a : Nat, (∀ k i, a ≠ B k i) → (∀ i, a ≠ C i) → a ≠ sc → a ≠ pg → a ≠ sx → a ≠ sy → a ≠ al → a ≠ ed → h' a = h a
set_option maxHeartbeats 4000000 in
set_option maxRecDepth 100000 in
theorem kX5_scale {G : xG} {l : Launch} {d : Nat} {h : xH} {Q : Option Value → xH → Prop} {sc pg sx sy al ed : Nat} {C : Nat → Nat} {B : Nat → Nat → Nat} {p : xPv} {n : Int32} {U : Nat → Nat → Int32} {md : Int32} {N : Nat} {I : Nat → xSi} {V : Nat → Nat → Nat → Int32}  {ax k a b : Int32} (hK : xCls G sc pg sx sy al ed C B p n U md N I V h) (hD : xDs sc pg sx sy al ed C B)  (hQ : (if ax = 0 then (if (FX5_within k (0 : Int32) (1 : Int32)) = 0 then Q (some (.int (-1 : Int32))) h else (if (FX5_within a (-1000000 : Int32) (1000000 : Int32)) = 0 then Q (some (.int (-1 : Int32))) h else (if (FX5_within b (-1000000 : Int32) (1000000 : Int32)) = 0 then Q (some (.int (-1 : Int32))) h else (if a < b then (∀ h', xCls G sc pg sx sy al ed C B (p.1, p.2.1, (k, a, b, p.2.2.1.2.2.2.1, p.2.2.1.2.2.2.2.1, p.2.2.1.2.2.2.2.2), p.2.2.2) n U md N (fun k => st1 (I k)) V h' → xfrK sc pg sx sy al ed C B h h' → Q (some (.int p.2.2.1.1)) h') else Q (some (.int (-1 : Int32))) h)))) else (if ax = 1 then (if (FX5_within k (0 : Int32) (1 : Int32)) = 0 then Q (some (.int (-1 : Int32))) h else (if (FX5_within a (-1000000 : Int32) (1000000 : Int32)) = 0 then Q (some (.int (-1 : Int32))) h else (if (FX5_within b (-1000000 : Int32) (1000000 : Int32)) = 0 then Q (some (.int (-1 : Int32))) h else (if a < b then (∀ h', xCls G sc pg sx sy al ed C B (p.1, p.2.1, p.2.2.1, (k, a, b, p.2.2.2.2.2.2.1, p.2.2.2.2.2.2.2.1, p.2.2.2.2.2.2.2.2)) n U md N (fun k => st1 (I k)) V h' → xfrK sc pg sx sy al ed C B h h' → Q (some (.int p.2.2.2.1)) h') else Q (some (.int (-1 : Int32))) h)))) else Q (some (.int (-1 : Int32))) h))) : xV G l mX5_scale (d + 4) 0 0 0 0 0 [.ref sc, .int ax, .int k, .int a, .int b, xU, xU] [] h Q := by
  refine x_aload_n dX5_scale_0 rfl ?_
  refine x_get 0 dX5_scale_1 hK.1 rfl (by decide) (by decide +kernel) rfl ?_
  refine x_iload_n dX5_scale_4 rfl ?_
  refine x_callV (M' := mX1_scaleOf) (mc' := 0) (ms' := 0) (As := [.int ax]) dX5_scale_5 gX5_scale_X1_scaleOf okX1_scaleOf rfl rfl hK.2.1.1 rfl (Nat.le_of_ble_eq_true rfl) (Nat.le_of_ble_eq_true rfl) (Nat.le_refl _) (Nat.le_refl _) (Nat.le_refl _) ?_
  refine kX1_scaleOf hK.2.1 ?_
  rcases xax ax with hx0 | hx1 | ⟨hx0, hx1⟩
  · rw [if_pos hx0]
    show xV _ _ _ _ _ _ _ _ _ _ _ _ _
    refine x_astore dX5_scale_8 (by decide) rfl ?_
    refine x_aload dX5_scale_10 rfl ?_
    refine x_ifnull dX5_scale_12 ?_
    refine x_iload_n dX5_scale_15 rfl ?_
    refine x_iconst (v := 0) dX5_scale_16 (by decide) ?_
    refine x_iconst (v := 1) dX5_scale_17 (by decide) ?_
    refine x_callS (M' := mX5_within) (mc' := 0) (ms' := 0) (As := [.int k, .int (0 : Int32), .int (1 : Int32)]) dX5_scale_18 gX5_scale_X5_within okX5_within rfl rfl (Nat.le_of_ble_eq_true rfl) (Nat.le_of_ble_eq_true rfl) (Nat.le_refl _) (Nat.le_refl _) (Nat.le_refl _) ?_
    refine kX5_within  ?_
    show xV _ _ _ _ _ _ _ _ _ _ _ _ _
    refine x_if_ne (tgt := 26) dX5_scale_21 (by decide) (fun hc_21 => ?_) (fun hc_21 => ?_)
    · refine x_iload_n dX5_scale_26 rfl ?_
      refine x_ldc (v := (-1000000)) dX5_scale_27 (by decide +kernel) ?_
      refine x_ldc (v := 1000000) dX5_scale_29 (by decide +kernel) ?_
      refine x_callS (M' := mX5_within) (mc' := 0) (ms' := 0) (As := [.int a, .int (-1000000 : Int32), .int (1000000 : Int32)]) dX5_scale_31 gX5_scale_X5_within okX5_within rfl rfl (Nat.le_of_ble_eq_true rfl) (Nat.le_of_ble_eq_true rfl) (Nat.le_refl _) (Nat.le_refl _) (Nat.le_refl _) ?_
      refine kX5_within  ?_
      show xV _ _ _ _ _ _ _ _ _ _ _ _ _
      refine x_if_eq (tgt := 55) dX5_scale_34 (by decide) (fun hc_34 => ?_) (fun hc_34 => ?_)
      · refine x_iconst (v := (-1)) dX5_scale_55 (by decide) ?_
        rw [if_pos hx0, if_neg hc_21, if_pos hc_34] at hQ
        exact x_iret dX5_scale_56 rfl hQ
      · refine x_iload dX5_scale_37 rfl ?_
        refine x_ldc (v := (-1000000)) dX5_scale_39 (by decide +kernel) ?_
        refine x_ldc (v := 1000000) dX5_scale_41 (by decide +kernel) ?_
        refine x_callS (M' := mX5_within) (mc' := 0) (ms' := 0) (As := [.int b, .int (-1000000 : Int32), .int (1000000 : Int32)]) dX5_scale_43 gX5_scale_X5_within okX5_within rfl rfl (Nat.le_of_ble_eq_true rfl) (Nat.le_of_ble_eq_true rfl) (Nat.le_refl _) (Nat.le_refl _) (Nat.le_refl _) ?_
        refine kX5_within  ?_
        show xV _ _ _ _ _ _ _ _ _ _ _ _ _
        refine x_if_eq (tgt := 55) dX5_scale_46 (by decide) (fun hc_46 => ?_) (fun hc_46 => ?_)
        · refine x_iconst (v := (-1)) dX5_scale_55 (by decide) ?_
          rw [if_pos hx0, if_neg hc_21, if_neg hc_34, if_pos hc_46] at hQ
          exact x_iret dX5_scale_56 rfl hQ
        · refine x_iload_n dX5_scale_49 rfl ?_
          refine x_iload dX5_scale_50 rfl ?_
          refine x_icmp_lt (tgt := 57) dX5_scale_52 (by decide) (fun hc_52 => ?_) (fun hc_52 => ?_)
          · refine x_aload dX5_scale_57 rfl ?_
            refine x_get 0 dX5_scale_59 hK.2.1.2.1 rfl (by decide) (by decide +kernel) rfl ?_
            refine x_istore dX5_scale_62 (by decide) rfl ?_
            refine x_aload dX5_scale_64 rfl ?_
            refine x_iload_n dX5_scale_66 rfl ?_
            refine x_iload_n dX5_scale_67 rfl ?_
            refine x_iload dX5_scale_68 rfl ?_
            refine x_callV (M' := mX2_spread) (mc' := 0) (ms' := 0) (As := [.int k, .int a, .int b]) dX5_scale_70 gX5_scale_X2_spread okX2_spread rfl rfl hK.2.1.2.1 rfl (Nat.le_of_ble_eq_true rfl) (Nat.le_of_ble_eq_true rfl) (Nat.le_refl _) (Nat.le_refl _) (Nat.le_refl _) ?_
            refine kX2_spread hK.2.1.2.1 ?_
            have hK := hK.page hD (p' := (p.1, p.2.1, (k, a, b, p.2.2.1.2.2.2.1, p.2.2.1.2.2.2.2.1, p.2.2.1.2.2.2.2.2), p.2.2.2)) (fun a9 z1 z2 z3 => xup_n z2) ⟨xup_k hD.2.2.2.2.2.2.1.1 hK.2.1.1, xup_s, xup_k (Ne.symm hD.2.2.2.2.2.2.2.1.1) hK.2.1.2.2⟩
            show xV _ _ _ _ _ _ _ _ _ _ _ _ _
            refine x_aload_n dX5_scale_73 rfl ?_
            refine x_callV (M' := mX5_markAllStale) (mc' := 0) (ms' := 0) (As := []) dX5_scale_74 gX5_scale_X5_markAllStale okX5_markAllStale rfl rfl hK.1 rfl (Nat.le_of_ble_eq_true rfl) (Nat.le_of_ble_eq_true rfl) (Nat.le_refl _) (Nat.le_refl _) (Nat.le_refl _) ?_
            refine kX5_markAllStale hK hD (fun h2 hK2 hF2 => ?_)
            show xV _ _ _ _ _ _ _ _ _ _ _ _ _
            refine x_iload dX5_scale_77 rfl ?_
            rw [if_pos hx0, if_neg hc_21, if_neg hc_34, if_neg hc_46, if_pos hc_52] at hQ
            exact x_iret dX5_scale_79 rfl (hQ _ hK2 (fun a9 eB eC e1 e2 e3 e4 e5 e6 => (hF2 a9 eB).trans (xup_n e3)))
          · refine x_iconst (v := (-1)) dX5_scale_55 (by decide) ?_
            rw [if_pos hx0, if_neg hc_21, if_neg hc_34, if_neg hc_46, if_neg hc_52] at hQ
            exact x_iret dX5_scale_56 rfl hQ
    · refine x_iconst (v := (-1)) dX5_scale_24 (by decide) ?_
      rw [if_pos hx0, if_pos hc_21] at hQ
      exact x_iret dX5_scale_25 rfl hQ
  · have hx0 := ne01 hx1
    rw [if_neg hx0, if_pos hx1]
    show xV _ _ _ _ _ _ _ _ _ _ _ _ _
    refine x_astore dX5_scale_8 (by decide) rfl ?_
    refine x_aload dX5_scale_10 rfl ?_
    refine x_ifnull dX5_scale_12 ?_
    refine x_iload_n dX5_scale_15 rfl ?_
    refine x_iconst (v := 0) dX5_scale_16 (by decide) ?_
    refine x_iconst (v := 1) dX5_scale_17 (by decide) ?_
    refine x_callS (M' := mX5_within) (mc' := 0) (ms' := 0) (As := [.int k, .int (0 : Int32), .int (1 : Int32)]) dX5_scale_18 gX5_scale_X5_within okX5_within rfl rfl (Nat.le_of_ble_eq_true rfl) (Nat.le_of_ble_eq_true rfl) (Nat.le_refl _) (Nat.le_refl _) (Nat.le_refl _) ?_
    refine kX5_within  ?_
    show xV _ _ _ _ _ _ _ _ _ _ _ _ _
    refine x_if_ne (tgt := 26) dX5_scale_21 (by decide) (fun hc_21 => ?_) (fun hc_21 => ?_)
    · refine x_iload_n dX5_scale_26 rfl ?_
      refine x_ldc (v := (-1000000)) dX5_scale_27 (by decide +kernel) ?_
      refine x_ldc (v := 1000000) dX5_scale_29 (by decide +kernel) ?_
      refine x_callS (M' := mX5_within) (mc' := 0) (ms' := 0) (As := [.int a, .int (-1000000 : Int32), .int (1000000 : Int32)]) dX5_scale_31 gX5_scale_X5_within okX5_within rfl rfl (Nat.le_of_ble_eq_true rfl) (Nat.le_of_ble_eq_true rfl) (Nat.le_refl _) (Nat.le_refl _) (Nat.le_refl _) ?_
      refine kX5_within  ?_
      show xV _ _ _ _ _ _ _ _ _ _ _ _ _
      refine x_if_eq (tgt := 55) dX5_scale_34 (by decide) (fun hc_34 => ?_) (fun hc_34 => ?_)
      · refine x_iconst (v := (-1)) dX5_scale_55 (by decide) ?_
        rw [if_neg hx0, if_pos hx1, if_neg hc_21, if_pos hc_34] at hQ
        exact x_iret dX5_scale_56 rfl hQ
      · refine x_iload dX5_scale_37 rfl ?_
        refine x_ldc (v := (-1000000)) dX5_scale_39 (by decide +kernel) ?_
        refine x_ldc (v := 1000000) dX5_scale_41 (by decide +kernel) ?_
        refine x_callS (M' := mX5_within) (mc' := 0) (ms' := 0) (As := [.int b, .int (-1000000 : Int32), .int (1000000 : Int32)]) dX5_scale_43 gX5_scale_X5_within okX5_within rfl rfl (Nat.le_of_ble_eq_true rfl) (Nat.le_of_ble_eq_true rfl) (Nat.le_refl _) (Nat.le_refl _) (Nat.le_refl _) ?_
        refine kX5_within  ?_
        show xV _ _ _ _ _ _ _ _ _ _ _ _ _
        refine x_if_eq (tgt := 55) dX5_scale_46 (by decide) (fun hc_46 => ?_) (fun hc_46 => ?_)
        · refine x_iconst (v := (-1)) dX5_scale_55 (by decide) ?_
          rw [if_neg hx0, if_pos hx1, if_neg hc_21, if_neg hc_34, if_pos hc_46] at hQ
          exact x_iret dX5_scale_56 rfl hQ
        · refine x_iload_n dX5_scale_49 rfl ?_
          refine x_iload dX5_scale_50 rfl ?_
          refine x_icmp_lt (tgt := 57) dX5_scale_52 (by decide) (fun hc_52 => ?_) (fun hc_52 => ?_)
          · refine x_aload dX5_scale_57 rfl ?_
            refine x_get 0 dX5_scale_59 hK.2.1.2.2 rfl (by decide) (by decide +kernel) rfl ?_
            refine x_istore dX5_scale_62 (by decide) rfl ?_
            refine x_aload dX5_scale_64 rfl ?_
            refine x_iload_n dX5_scale_66 rfl ?_
            refine x_iload_n dX5_scale_67 rfl ?_
            refine x_iload dX5_scale_68 rfl ?_
            refine x_callV (M' := mX2_spread) (mc' := 0) (ms' := 0) (As := [.int k, .int a, .int b]) dX5_scale_70 gX5_scale_X2_spread okX2_spread rfl rfl hK.2.1.2.2 rfl (Nat.le_of_ble_eq_true rfl) (Nat.le_of_ble_eq_true rfl) (Nat.le_refl _) (Nat.le_refl _) (Nat.le_refl _) ?_
            refine kX2_spread hK.2.1.2.2 ?_
            have hK := hK.page hD (p' := (p.1, p.2.1, p.2.2.1, (k, a, b, p.2.2.2.2.2.2.1, p.2.2.2.2.2.2.2.1, p.2.2.2.2.2.2.2.2))) (fun a9 z1 z2 z3 => xup_n z3) ⟨xup_k hD.2.2.2.2.2.2.1.2.1 hK.2.1.1, xup_k hD.2.2.2.2.2.2.2.1.1 hK.2.1.2.1, xup_s⟩
            show xV _ _ _ _ _ _ _ _ _ _ _ _ _
            refine x_aload_n dX5_scale_73 rfl ?_
            refine x_callV (M' := mX5_markAllStale) (mc' := 0) (ms' := 0) (As := []) dX5_scale_74 gX5_scale_X5_markAllStale okX5_markAllStale rfl rfl hK.1 rfl (Nat.le_of_ble_eq_true rfl) (Nat.le_of_ble_eq_true rfl) (Nat.le_refl _) (Nat.le_refl _) (Nat.le_refl _) ?_
            refine kX5_markAllStale hK hD (fun h2 hK2 hF2 => ?_)
            show xV _ _ _ _ _ _ _ _ _ _ _ _ _
            refine x_iload dX5_scale_77 rfl ?_
            rw [if_neg hx0, if_pos hx1, if_neg hc_21, if_neg hc_34, if_neg hc_46, if_pos hc_52] at hQ
            exact x_iret dX5_scale_79 rfl (hQ _ hK2 (fun a9 eB eC e1 e2 e3 e4 e5 e6 => (hF2 a9 eB).trans (xup_n e4)))
          · refine x_iconst (v := (-1)) dX5_scale_55 (by decide) ?_
            rw [if_neg hx0, if_pos hx1, if_neg hc_21, if_neg hc_34, if_neg hc_46, if_neg hc_52] at hQ
            exact x_iret dX5_scale_56 rfl hQ
    · refine x_iconst (v := (-1)) dX5_scale_24 (by decide) ?_
      rw [if_neg hx0, if_pos hx1, if_pos hc_21] at hQ
      exact x_iret dX5_scale_25 rfl hQ
  · rw [if_neg hx0, if_neg hx1]
    show xV _ _ _ _ _ _ _ _ _ _ _ _ _
    refine x_astoreN dX5_scale_8 (by decide) rfl ?_
    refine x_aloadN dX5_scale_10 rfl ?_
    refine x_ifnullN (tgt := 24) dX5_scale_12 (by decide) ?_
    refine x_iconst (v := (-1)) dX5_scale_24 (by decide) ?_
    rw [if_neg hx0, if_neg hx1] at hQ
    exact x_iret dX5_scale_25 rfl hQ
set_option maxHeartbeats 4000000 in
set_option maxRecDepth 100000 in
theorem kX5_cut {G : xG} {l : Launch} {d : Nat} {h : xH} {Q : Option Value → xH → Prop} {sc pg sx sy al ed : Nat} {C : Nat → Nat} {B : Nat → Nat → Nat} {p : xPv} {n : Int32} {U : Nat → Nat → Int32} {md : Int32} {N : Nat} {I : Nat → xSi} {V : Nat → Nat → Nat → Int32}  {ax a b : Int32} (hK : xCls G sc pg sx sy al ed C B p n U md N I V h) (hD : xDs sc pg sx sy al ed C B)  (hQ : (if ax = 0 then (if a ≤ p.2.2.1.2.1 then Q (some (.int (-1 : Int32))) h else (if b ≤ a then Q (some (.int (-1 : Int32))) h else (if b < p.2.2.1.2.2.1 then (∀ h', xCls G sc pg sx sy al ed C B (p.1, p.2.1, ((2 : Int32), p.2.2.1.2.1, p.2.2.1.2.2.1, a, b, p.2.2.1.2.2.2.2.2), p.2.2.2) n U md N (fun k => st1 (I k)) V h' → xfrK sc pg sx sy al ed C B h h' → Q (some (.int p.2.2.1.1)) h') else Q (some (.int (-1 : Int32))) h))) else (if ax = 1 then (if a ≤ p.2.2.2.2.1 then Q (some (.int (-1 : Int32))) h else (if b ≤ a then Q (some (.int (-1 : Int32))) h else (if b < p.2.2.2.2.2.1 then (∀ h', xCls G sc pg sx sy al ed C B (p.1, p.2.1, p.2.2.1, ((2 : Int32), p.2.2.2.2.1, p.2.2.2.2.2.1, a, b, p.2.2.2.2.2.2.2.2)) n U md N (fun k => st1 (I k)) V h' → xfrK sc pg sx sy al ed C B h h' → Q (some (.int p.2.2.2.1)) h') else Q (some (.int (-1 : Int32))) h))) else Q (some (.int (-1 : Int32))) h))) : xV G l mX5_cut (d + 4) 0 0 0 0 0 [.ref sc, .int ax, .int a, .int b, xU, xU] [] h Q := by
  refine x_aload_n dX5_cut_0 rfl ?_
  refine x_get 0 dX5_cut_1 hK.1 rfl (by decide) (by decide +kernel) rfl ?_
  refine x_iload_n dX5_cut_4 rfl ?_
  refine x_callV (M' := mX1_scaleOf) (mc' := 0) (ms' := 0) (As := [.int ax]) dX5_cut_5 gX5_cut_X1_scaleOf okX1_scaleOf rfl rfl hK.2.1.1 rfl (Nat.le_of_ble_eq_true rfl) (Nat.le_of_ble_eq_true rfl) (Nat.le_refl _) (Nat.le_refl _) (Nat.le_refl _) ?_
  refine kX1_scaleOf hK.2.1 ?_
  rcases xax ax with hx0 | hx1 | ⟨hx0, hx1⟩
  · rw [if_pos hx0]
    show xV _ _ _ _ _ _ _ _ _ _ _ _ _
    refine x_astore dX5_cut_8 (by decide) rfl ?_
    refine x_aload dX5_cut_10 rfl ?_
    refine x_ifnull dX5_cut_12 ?_
    refine x_aload dX5_cut_15 rfl ?_
    refine x_get 1 dX5_cut_17 hK.2.1.2.1 rfl (by decide) (by decide +kernel) rfl ?_
    refine x_iload_n dX5_cut_20 rfl ?_
    refine x_icmp_ge (tgt := 38) dX5_cut_21 (by decide) (fun hc_21 => ?_) (fun hc_21 => ?_)
    · refine x_iconst (v := (-1)) dX5_cut_38 (by decide) ?_
      rw [if_pos hx0, if_pos hc_21] at hQ
      exact x_iret dX5_cut_39 rfl hQ
    · refine x_iload_n dX5_cut_24 rfl ?_
      refine x_iload_n dX5_cut_25 rfl ?_
      refine x_icmp_ge (tgt := 38) dX5_cut_26 (by decide) (fun hc_26 => ?_) (fun hc_26 => ?_)
      · refine x_iconst (v := (-1)) dX5_cut_38 (by decide) ?_
        rw [if_pos hx0, if_neg hc_21, if_pos hc_26] at hQ
        exact x_iret dX5_cut_39 rfl hQ
      · refine x_iload_n dX5_cut_29 rfl ?_
        refine x_aload dX5_cut_30 rfl ?_
        refine x_get 2 dX5_cut_32 hK.2.1.2.1 rfl (by decide) (by decide +kernel) rfl ?_
        refine x_icmp_lt (tgt := 40) dX5_cut_35 (by decide) (fun hc_35 => ?_) (fun hc_35 => ?_)
        · refine x_aload dX5_cut_40 rfl ?_
          refine x_get 0 dX5_cut_42 hK.2.1.2.1 rfl (by decide) (by decide +kernel) rfl ?_
          refine x_istore dX5_cut_45 (by decide) rfl ?_
          refine x_aload dX5_cut_47 rfl ?_
          refine x_iload_n dX5_cut_49 rfl ?_
          refine x_iload_n dX5_cut_50 rfl ?_
          refine x_callV (M' := mX2_leaveOut) (mc' := 0) (ms' := 0) (As := [.int a, .int b]) dX5_cut_51 gX5_cut_X2_leaveOut okX2_leaveOut rfl rfl hK.2.1.2.1 rfl (Nat.le_of_ble_eq_true rfl) (Nat.le_of_ble_eq_true rfl) (Nat.le_refl _) (Nat.le_refl _) (Nat.le_refl _) ?_
          refine kX2_leaveOut hK.2.1.2.1 ?_
          have hK := hK.page hD (p' := (p.1, p.2.1, ((2 : Int32), p.2.2.1.2.1, p.2.2.1.2.2.1, a, b, p.2.2.1.2.2.2.2.2), p.2.2.2)) (fun a9 z1 z2 z3 => xup_n z2) ⟨xup_k hD.2.2.2.2.2.2.1.1 hK.2.1.1, xup_s, xup_k (Ne.symm hD.2.2.2.2.2.2.2.1.1) hK.2.1.2.2⟩
          show xV _ _ _ _ _ _ _ _ _ _ _ _ _
          refine x_aload_n dX5_cut_54 rfl ?_
          refine x_callV (M' := mX5_markAllStale) (mc' := 0) (ms' := 0) (As := []) dX5_cut_55 gX5_cut_X5_markAllStale okX5_markAllStale rfl rfl hK.1 rfl (Nat.le_of_ble_eq_true rfl) (Nat.le_of_ble_eq_true rfl) (Nat.le_refl _) (Nat.le_refl _) (Nat.le_refl _) ?_
          refine kX5_markAllStale hK hD (fun h2 hK2 hF2 => ?_)
          show xV _ _ _ _ _ _ _ _ _ _ _ _ _
          refine x_iload dX5_cut_58 rfl ?_
          rw [if_pos hx0, if_neg hc_21, if_neg hc_26, if_pos hc_35] at hQ
          exact x_iret dX5_cut_60 rfl (hQ _ hK2 (fun a9 eB eC e1 e2 e3 e4 e5 e6 => (hF2 a9 eB).trans (xup_n e3)))
        · refine x_iconst (v := (-1)) dX5_cut_38 (by decide) ?_
          rw [if_pos hx0, if_neg hc_21, if_neg hc_26, if_neg hc_35] at hQ
          exact x_iret dX5_cut_39 rfl hQ
  · have hx0 := ne01 hx1
    rw [if_neg hx0, if_pos hx1]
    show xV _ _ _ _ _ _ _ _ _ _ _ _ _
    refine x_astore dX5_cut_8 (by decide) rfl ?_
    refine x_aload dX5_cut_10 rfl ?_
    refine x_ifnull dX5_cut_12 ?_
    refine x_aload dX5_cut_15 rfl ?_
    refine x_get 1 dX5_cut_17 hK.2.1.2.2 rfl (by decide) (by decide +kernel) rfl ?_
    refine x_iload_n dX5_cut_20 rfl ?_
    refine x_icmp_ge (tgt := 38) dX5_cut_21 (by decide) (fun hc_21 => ?_) (fun hc_21 => ?_)
    · refine x_iconst (v := (-1)) dX5_cut_38 (by decide) ?_
      rw [if_neg hx0, if_pos hx1, if_pos hc_21] at hQ
      exact x_iret dX5_cut_39 rfl hQ
    · refine x_iload_n dX5_cut_24 rfl ?_
      refine x_iload_n dX5_cut_25 rfl ?_
      refine x_icmp_ge (tgt := 38) dX5_cut_26 (by decide) (fun hc_26 => ?_) (fun hc_26 => ?_)
      · refine x_iconst (v := (-1)) dX5_cut_38 (by decide) ?_
        rw [if_neg hx0, if_pos hx1, if_neg hc_21, if_pos hc_26] at hQ
        exact x_iret dX5_cut_39 rfl hQ
      · refine x_iload_n dX5_cut_29 rfl ?_
        refine x_aload dX5_cut_30 rfl ?_
        refine x_get 2 dX5_cut_32 hK.2.1.2.2 rfl (by decide) (by decide +kernel) rfl ?_
        refine x_icmp_lt (tgt := 40) dX5_cut_35 (by decide) (fun hc_35 => ?_) (fun hc_35 => ?_)
        · refine x_aload dX5_cut_40 rfl ?_
          refine x_get 0 dX5_cut_42 hK.2.1.2.2 rfl (by decide) (by decide +kernel) rfl ?_
          refine x_istore dX5_cut_45 (by decide) rfl ?_
          refine x_aload dX5_cut_47 rfl ?_
          refine x_iload_n dX5_cut_49 rfl ?_
          refine x_iload_n dX5_cut_50 rfl ?_
          refine x_callV (M' := mX2_leaveOut) (mc' := 0) (ms' := 0) (As := [.int a, .int b]) dX5_cut_51 gX5_cut_X2_leaveOut okX2_leaveOut rfl rfl hK.2.1.2.2 rfl (Nat.le_of_ble_eq_true rfl) (Nat.le_of_ble_eq_true rfl) (Nat.le_refl _) (Nat.le_refl _) (Nat.le_refl _) ?_
          refine kX2_leaveOut hK.2.1.2.2 ?_
          have hK := hK.page hD (p' := (p.1, p.2.1, p.2.2.1, ((2 : Int32), p.2.2.2.2.1, p.2.2.2.2.2.1, a, b, p.2.2.2.2.2.2.2.2))) (fun a9 z1 z2 z3 => xup_n z3) ⟨xup_k hD.2.2.2.2.2.2.1.2.1 hK.2.1.1, xup_k hD.2.2.2.2.2.2.2.1.1 hK.2.1.2.1, xup_s⟩
          show xV _ _ _ _ _ _ _ _ _ _ _ _ _
          refine x_aload_n dX5_cut_54 rfl ?_
          refine x_callV (M' := mX5_markAllStale) (mc' := 0) (ms' := 0) (As := []) dX5_cut_55 gX5_cut_X5_markAllStale okX5_markAllStale rfl rfl hK.1 rfl (Nat.le_of_ble_eq_true rfl) (Nat.le_of_ble_eq_true rfl) (Nat.le_refl _) (Nat.le_refl _) (Nat.le_refl _) ?_
          refine kX5_markAllStale hK hD (fun h2 hK2 hF2 => ?_)
          show xV _ _ _ _ _ _ _ _ _ _ _ _ _
          refine x_iload dX5_cut_58 rfl ?_
          rw [if_neg hx0, if_pos hx1, if_neg hc_21, if_neg hc_26, if_pos hc_35] at hQ
          exact x_iret dX5_cut_60 rfl (hQ _ hK2 (fun a9 eB eC e1 e2 e3 e4 e5 e6 => (hF2 a9 eB).trans (xup_n e4)))
        · refine x_iconst (v := (-1)) dX5_cut_38 (by decide) ?_
          rw [if_neg hx0, if_pos hx1, if_neg hc_21, if_neg hc_26, if_neg hc_35] at hQ
          exact x_iret dX5_cut_39 rfl hQ
  · rw [if_neg hx0, if_neg hx1]
    show xV _ _ _ _ _ _ _ _ _ _ _ _ _
    refine x_astoreN dX5_cut_8 (by decide) rfl ?_
    refine x_aloadN dX5_cut_10 rfl ?_
    refine x_ifnullN (tgt := 38) dX5_cut_12 (by decide) ?_
    refine x_iconst (v := (-1)) dX5_cut_38 (by decide) ?_
    rw [if_neg hx0, if_neg hx1] at hQ
    exact x_iret dX5_cut_39 rfl hQ
set_option maxHeartbeats 4000000 in
set_option maxRecDepth 100000 in
theorem kX5_canvas {G : xG} {l : Launch} {d : Nat} {h : xH} {Q : Option Value → xH → Prop} {sc pg sx sy al ed : Nat} {C : Nat → Nat} {B : Nat → Nat → Nat} {p : xPv} {n : Int32} {U : Nat → Nat → Int32} {md : Int32} {N : Nat} {I : Nat → xSi} {V : Nat → Nat → Nat → Int32}  {a b : Int32} (hK : xCls G sc pg sx sy al ed C B p n U md N I V h) (hD : xDs sc pg sx sy al ed C B)  (hQ : (if (FX5_within a (4 : Int32) (40 : Int32)) = 0 then Q (some (.int (-1 : Int32))) h else (if (FX5_within b (2 : Int32) (16 : Int32)) = 0 then Q (some (.int (-1 : Int32))) h else (∀ h', xCls G sc pg sx sy al ed C B (a, b, (p.2.2.1.1, p.2.2.1.2.1, p.2.2.1.2.2.1, p.2.2.1.2.2.2.1, p.2.2.1.2.2.2.2.1, 2 * a), (p.2.2.2.1, p.2.2.2.2.1, p.2.2.2.2.2.1, p.2.2.2.2.2.2.1, p.2.2.2.2.2.2.2.1, 4 * b)) 0 U md N (fun k => st1 (I k)) V h' → xfrK sc pg sx sy al ed C B h h' → Q (some (.int (1 : Int32))) h')))) : xV G l mX5_canvas (d + 4) 0 0 0 0 0 [.ref sc, .int a, .int b] [] h Q := by
  refine x_iload_n dX5_canvas_0 rfl ?_
  refine x_iconst (v := 4) dX5_canvas_1 (by decide) ?_
  refine x_bipush (v := 40) dX5_canvas_2 (by decide) ?_
  refine x_callS (M' := mX5_within) (mc' := 0) (ms' := 0) (As := [.int a, .int (4 : Int32), .int (40 : Int32)]) dX5_canvas_4 gX5_canvas_X5_within okX5_within rfl rfl (Nat.le_of_ble_eq_true rfl) (Nat.le_of_ble_eq_true rfl) (Nat.le_refl _) (Nat.le_refl _) (Nat.le_refl _) ?_
  refine kX5_within  ?_
  show xV _ _ _ _ _ _ _ _ _ _ _ _ _
  refine x_if_eq (tgt := 20) dX5_canvas_7 (by decide) (fun hc_7 => ?_) (fun hc_7 => ?_)
  · refine x_iconst (v := (-1)) dX5_canvas_20 (by decide) ?_
    rw [if_pos hc_7] at hQ
    exact x_iret dX5_canvas_21 rfl hQ
  · refine x_iload_n dX5_canvas_10 rfl ?_
    refine x_iconst (v := 2) dX5_canvas_11 (by decide) ?_
    refine x_bipush (v := 16) dX5_canvas_12 (by decide) ?_
    refine x_callS (M' := mX5_within) (mc' := 0) (ms' := 0) (As := [.int b, .int (2 : Int32), .int (16 : Int32)]) dX5_canvas_14 gX5_canvas_X5_within okX5_within rfl rfl (Nat.le_of_ble_eq_true rfl) (Nat.le_of_ble_eq_true rfl) (Nat.le_refl _) (Nat.le_refl _) (Nat.le_refl _) ?_
    refine kX5_within  ?_
    show xV _ _ _ _ _ _ _ _ _ _ _ _ _
    refine x_if_ne (tgt := 22) dX5_canvas_17 (by decide) (fun hc_17 => ?_) (fun hc_17 => ?_)
    · refine x_aload_n dX5_canvas_22 rfl ?_
      refine x_get 0 dX5_canvas_23 hK.1 rfl (by decide) (by decide +kernel) rfl ?_
      refine x_iload_n dX5_canvas_26 rfl ?_
      refine x_iload_n dX5_canvas_27 rfl ?_
      refine x_callV (M' := mX1_resize) (mc' := 0) (ms' := 0) (As := [.int a, .int b]) dX5_canvas_28 gX5_canvas_X1_resize okX1_resize rfl rfl hK.2.1.1 rfl (Nat.le_of_ble_eq_true rfl) (Nat.le_of_ble_eq_true rfl) (Nat.le_refl _) (Nat.le_refl _) (Nat.le_refl _) ?_
      refine kX1_resize hK.2.1 hD.2.2.2.2.2.2.1.1 hD.2.2.2.2.2.2.1.2.1 hD.2.2.2.2.2.2.2.1.1 ?_
      have hK := hK.page hD (p' := (a, b, (p.2.2.1.1, p.2.2.1.2.1, p.2.2.1.2.2.1, p.2.2.1.2.2.2.1, p.2.2.1.2.2.2.2.1, 2 * a), (p.2.2.2.1, p.2.2.2.2.1, p.2.2.2.2.2.1, p.2.2.2.2.2.2.1, p.2.2.2.2.2.2.2.1, 4 * b))) (fun a9 z1 z2 z3 => (xup_n z3).trans ((xup_n z2).trans (xup_n z1))) ⟨xup_k hD.2.2.2.2.2.2.1.2.1 (xup_k hD.2.2.2.2.2.2.1.1 xup_s), xup_k hD.2.2.2.2.2.2.2.1.1 xup_s, xup_s⟩
      show xV _ _ _ _ _ _ _ _ _ _ _ _ _
      show xV _ _ _ _ _ _ _ _ _ _ _ _ _
      refine x_aload_n dX5_canvas_31 rfl ?_
      refine x_get 2 dX5_canvas_32 hK.1 rfl (by decide) (by decide +kernel) rfl ?_
      refine x_iconst (v := 0) dX5_canvas_35 (by decide) ?_
      refine x_put 0 dX5_canvas_36 hK.2.2.1.1 rfl (by decide) (by decide +kernel) rfl rfl rfl rfl (Nat.le_of_ble_eq_true rfl) ?_
      have hK := hK.lab hD (n' := 0) (U' := U) (fun a9 z => xup_n (z 0)) ⟨xup_s, xup_k (hD.2.2.2.1 (by decide)) hK.2.2.1.2.1, xup_k (hD.2.2.2.1 (by decide)) hK.2.2.1.2.2.1, xup_k (hD.2.2.2.1 (by decide)) hK.2.2.1.2.2.2.1, xup_k (hD.2.2.2.1 (by decide)) hK.2.2.1.2.2.2.2.1, xup_k (hD.2.2.2.1 (by decide)) hK.2.2.1.2.2.2.2.2⟩
      refine x_aload_n dX5_canvas_39 rfl ?_
      refine x_callV (M' := mX5_markAllStale) (mc' := 0) (ms' := 0) (As := []) dX5_canvas_40 gX5_canvas_X5_markAllStale okX5_markAllStale rfl rfl hK.1 rfl (Nat.le_of_ble_eq_true rfl) (Nat.le_of_ble_eq_true rfl) (Nat.le_refl _) (Nat.le_refl _) (Nat.le_refl _) ?_
      refine kX5_markAllStale hK hD (fun h2 hK2 hF2 => ?_)
      show xV _ _ _ _ _ _ _ _ _ _ _ _ _
      refine x_iconst (v := 1) dX5_canvas_43 (by decide) ?_
      rw [if_neg hc_7, if_neg hc_17] at hQ
      exact x_iret dX5_canvas_44 rfl (hQ _ hK2 (fun a9 eB eC e1 e2 e3 e4 e5 e6 => (hF2 a9 eB).trans ((xup_n (eC 0)).trans ((xup_n e4).trans ((xup_n e3).trans (xup_n e2))))))
    · refine x_iconst (v := (-1)) dX5_canvas_20 (by decide) ?_
      rw [if_neg hc_7, if_pos hc_17] at hQ
      exact x_iret dX5_canvas_21 rfl hQ
set_option maxHeartbeats 4000000 in
set_option maxRecDepth 100000 in
theorem kX5_styleJ {G : xG} {l : Launch} {d : Nat} {h : xH} {Q : Option Value → xH → Prop} {sc pg sx sy al ed : Nat} {C : Nat → Nat} {B : Nat → Nat → Nat} {p : xPv} {n : Int32} {U : Nat → Nat → Int32} {md : Int32} {N : Nat} {I : Nat → xSi} {V : Nat → Nat → Nat → Int32} {j : Nat} {w v : Int32} (hK : xCls G sc pg sx sy al ed C B p n U md N I V h) (hD : xDs sc pg sx sy al ed C B) (hj : j < N) (hQ : if FX5_isStyle w v = 0 then Q (some (.int (-1))) h else (if w = 0 then (∀ h', xCls G sc pg sx sy al ed C B p n U md N (va_up I j (v, (I j).2.1, (I j).2.2.1, (I j).2.2.2.1, 1)) V h' → xfrK sc pg sx sy al ed C B h h' → Q (some (.int (I j).1)) h') else (if w = 1 then (∀ h', xCls G sc pg sx sy al ed C B p n U md N (va_up I j ((I j).1, v, (I j).2.2.1, (I j).2.2.2.1, (I j).2.2.2.2)) V h' → xfrK sc pg sx sy al ed C B h h' → Q (some (.int (I j).2.1)) h') else (if w = 2 then (∀ h', xCls G sc pg sx sy al ed C B p n U md N (va_up I j ((I j).1, (I j).2.1, v, (I j).2.2.2.1, (I j).2.2.2.2)) V h' → xfrK sc pg sx sy al ed C B h h' → Q (some (.int (I j).2.2.1)) h') else Q (some (.int (-1))) h)))) : xV G l mX5_style (d + 4) 0 0 0 0 0 [.ref sc, .int (nI j), .int w, .int v, xU] [] h Q := by
  refine x_aload_n dX5_style_0 rfl ?_
  refine x_iload_n dX5_style_1 rfl ?_
  refine x_callV (M' := mX5_seriesOf) (mc' := 0) (ms' := 0) (As := [.int (nI j)]) dX5_style_2 gX5_style_X5_seriesOf okX5_seriesOf rfl rfl hK.1 rfl (Nat.le_of_ble_eq_true rfl) (Nat.le_of_ble_eq_true rfl) (Nat.le_refl _) (Nat.le_refl _) (Nat.le_refl _) ?_
  refine kX5_seriesOf hK hj ?_
  show xV _ _ _ _ _ _ _ _ _ _ _ _ _
  refine x_astore dX5_style_5 (by decide) rfl ?_
  refine x_aload dX5_style_7 rfl ?_
  refine x_ifnull dX5_style_9 ?_
  refine x_iload_n dX5_style_12 rfl ?_
  refine x_iload_n dX5_style_13 rfl ?_
  refine x_callS (M' := mX5_isStyle) (mc' := 0) (ms' := 0) (As := [.int w, .int v]) dX5_style_14 gX5_style_X5_isStyle okX5_isStyle rfl rfl (Nat.le_of_ble_eq_true rfl) (Nat.le_of_ble_eq_true rfl) (Nat.le_refl _) (Nat.le_refl _) (Nat.le_refl _) ?_
  refine kX5_isStyle  ?_
  show xV _ _ _ _ _ _ _ _ _ _ _ _ _
  refine x_if_ne (tgt := 22) dX5_style_17 (by decide) (fun hc_17 => ?_) (fun hc_17 => ?_)
  · refine x_aload dX5_style_22 rfl ?_
    refine x_iload_n dX5_style_24 rfl ?_
    refine x_iload_n dX5_style_25 rfl ?_
    refine x_callV (M' := mX3_restyle) (mc' := 0) (ms' := 0) (As := [.int w, .int v]) dX5_style_26 gX5_style_X3_restyle okX3_restyle rfl rfl (hK.2.2.2.2.2.1 j hj).1 rfl (Nat.le_of_ble_eq_true rfl) (Nat.le_of_ble_eq_true rfl) (Nat.le_refl _) (Nat.le_refl _) (Nat.le_refl _) ?_
    refine kX3_restyle (hK.2.2.2.2.2.1 j hj) ?_
    rw [if_neg hc_17] at hQ
    by_cases hw0 : w = 0
    · rw [if_pos hw0]
      rw [if_pos hw0] at hQ
      show xV _ _ _ _ _ _ _ _ _ _ _ _ _
      exact x_iret dX5_style_29 rfl (hQ _ (by have h3 := hK.ser hD (j := j) (h' := xup h (B j 0) (xSo (B j) pg (v, (I j).2.1, (I j).2.2.1, (I j).2.2.2.1, 1))) (fun a ha => xup_n (ha 0)) ((hK.2.2.2.2.2.1 j hj).up0 (hD.b j)); rw [xups] at h3; exact h3) (fun a9 eB _ _ _ _ _ _ _ => xup_n (eB j 0)))
    by_cases hw1 : w = 1
    · rw [if_neg hw0, if_pos hw1]
      rw [if_neg hw0, if_pos hw1] at hQ
      show xV _ _ _ _ _ _ _ _ _ _ _ _ _
      exact x_iret dX5_style_29 rfl (hQ _ (by have h3 := hK.ser hD (j := j) (h' := xup h (B j 0) (xSo (B j) pg ((I j).1, v, (I j).2.2.1, (I j).2.2.2.1, (I j).2.2.2.2))) (fun a ha => xup_n (ha 0)) ((hK.2.2.2.2.2.1 j hj).up0 (hD.b j)); rw [xups] at h3; exact h3) (fun a9 eB _ _ _ _ _ _ _ => xup_n (eB j 0)))
    by_cases hw2 : w = 2
    · rw [if_neg hw0, if_neg hw1, if_pos hw2]
      rw [if_neg hw0, if_neg hw1, if_pos hw2] at hQ
      show xV _ _ _ _ _ _ _ _ _ _ _ _ _
      exact x_iret dX5_style_29 rfl (hQ _ (by have h3 := hK.ser hD (j := j) (h' := xup h (B j 0) (xSo (B j) pg ((I j).1, (I j).2.1, v, (I j).2.2.2.1, (I j).2.2.2.2))) (fun a ha => xup_n (ha 0)) ((hK.2.2.2.2.2.1 j hj).up0 (hD.b j)); rw [xups] at h3; exact h3) (fun a9 eB _ _ _ _ _ _ _ => xup_n (eB j 0)))
    rw [if_neg hw0, if_neg hw1, if_neg hw2]
    rw [if_neg hw0, if_neg hw1, if_neg hw2] at hQ
    show xV _ _ _ _ _ _ _ _ _ _ _ _ _
    exact x_iret dX5_style_29 rfl hQ
  · refine x_iconst (v := (-1)) dX5_style_20 (by decide) ?_
    exact x_iret dX5_style_21 rfl (by rw [if_pos hc_17] at hQ; exact hQ)
set_option maxHeartbeats 4000000 in
set_option maxRecDepth 100000 in
theorem kX5_styleN {G : xG} {l : Launch} {d : Nat} {h : xH} {Q : Option Value → xH → Prop} {sc pg sx sy al ed : Nat} {C : Nat → Nat} {B : Nat → Nat → Nat} {p : xPv} {n : Int32} {U : Nat → Nat → Int32} {md : Int32} {N : Nat} {I : Nat → xSi} {V : Nat → Nat → Nat → Int32} {s w v : Int32} (hK : xCls G sc pg sx sy al ed C B p n U md N I V h) (hs : s < 0 ∨ nI N ≤ s) (hQ : Q (some (.int (-1))) h) : xV G l mX5_style (d + 4) 0 0 0 0 0 [.ref sc, .int s, .int w, .int v, xU] [] h Q := by
  refine x_aload_n dX5_style_0 rfl ?_
  refine x_iload_n dX5_style_1 rfl ?_
  refine x_callV (M' := mX5_seriesOf) (mc' := 0) (ms' := 0) (As := [.int s]) dX5_style_2 gX5_style_X5_seriesOf okX5_seriesOf rfl rfl hK.1 rfl (Nat.le_of_ble_eq_true rfl) (Nat.le_of_ble_eq_true rfl) (Nat.le_refl _) (Nat.le_refl _) (Nat.le_refl _) ?_
  refine kX5_seriesOfN hK hs ?_
  show xV _ _ _ _ _ _ _ _ _ _ _ _ _
  refine x_astoreN dX5_style_5 (by decide) rfl ?_
  refine x_aloadN dX5_style_7 rfl ?_
  refine x_ifnullN (tgt := 20) dX5_style_9 (by decide) ?_
  refine x_iconst (v := (-1)) dX5_style_20 (by decide) ?_
  exact x_iret dX5_style_21 rfl hQ
set_option maxHeartbeats 4000000 in
set_option maxRecDepth 100000 in
theorem kX5_pointN {G : xG} {l : Launch} {d : Nat} {h : xH} {Q : Option Value → xH → Prop} {sc pg sx sy al ed : Nat} {C : Nat → Nat} {B : Nat → Nat → Nat} {p : xPv} {n : Int32} {U : Nat → Nat → Int32} {md : Int32} {N : Nat} {I : Nat → xSi} {V : Nat → Nat → Nat → Int32} {s a b q : Int32} (hK : xCls G sc pg sx sy al ed C B p n U md N I V h) (hs : s < 0 ∨ nI N ≤ s) (hQ : Q (some (.int (-1))) h) : xV G l mX5_point (d + 4) 0 0 0 0 0 [.ref sc, .int s, .int a, .int b, .int q, xU] [] h Q := by
  refine x_aload_n dX5_point_0 rfl ?_
  refine x_iload_n dX5_point_1 rfl ?_
  refine x_callV (M' := mX5_seriesOf) (mc' := 0) (ms' := 0) (As := [.int s]) dX5_point_2 gX5_point_X5_seriesOf okX5_seriesOf rfl rfl hK.1 rfl (Nat.le_of_ble_eq_true rfl) (Nat.le_of_ble_eq_true rfl) (Nat.le_refl _) (Nat.le_refl _) (Nat.le_refl _) ?_
  refine kX5_seriesOfN hK hs ?_
  show xV _ _ _ _ _ _ _ _ _ _ _ _ _
  refine x_astoreN dX5_point_5 (by decide) rfl ?_
  refine x_aloadN dX5_point_7 rfl ?_
  refine x_ifnullN (tgt := 45) dX5_point_9 (by decide) ?_
  refine x_iconst (v := (-1)) dX5_point_45 (by decide) ?_
  exact x_iret dX5_point_46 rfl hQ
set_option maxHeartbeats 4000000 in
set_option maxRecDepth 100000 in
theorem kX5_gapN {G : xG} {l : Launch} {d : Nat} {h : xH} {Q : Option Value → xH → Prop} {sc pg sx sy al ed : Nat} {C : Nat → Nat} {B : Nat → Nat → Nat} {p : xPv} {n : Int32} {U : Nat → Nat → Int32} {md : Int32} {N : Nat} {I : Nat → xSi} {V : Nat → Nat → Nat → Int32} {s : Int32} (hK : xCls G sc pg sx sy al ed C B p n U md N I V h) (hs : s < 0 ∨ nI N ≤ s) (hQ : Q (some (.int (-1))) h) : xV G l mX5_gap (d + 4) 0 0 0 0 0 [.ref sc, .int s, xU] [] h Q := by
  refine x_aload_n dX5_gap_0 rfl ?_
  refine x_iload_n dX5_gap_1 rfl ?_
  refine x_callV (M' := mX5_seriesOf) (mc' := 0) (ms' := 0) (As := [.int s]) dX5_gap_2 gX5_gap_X5_seriesOf okX5_seriesOf rfl rfl hK.1 rfl (Nat.le_of_ble_eq_true rfl) (Nat.le_of_ble_eq_true rfl) (Nat.le_refl _) (Nat.le_refl _) (Nat.le_refl _) ?_
  refine kX5_seriesOfN hK hs ?_
  show xV _ _ _ _ _ _ _ _ _ _ _ _ _
  refine x_astore_nN dX5_gap_5 (by decide) rfl ?_
  refine x_aload_nN dX5_gap_6 rfl ?_
  refine x_ifnonnullN dX5_gap_7 ?_
  refine x_iconst (v := (-1)) dX5_gap_10 (by decide) ?_
  refine x_goto (tgt := 22) dX5_gap_11 (by decide) ?_
  exact x_iret dX5_gap_22 rfl hQ
set_option maxHeartbeats 4000000 in
set_option maxRecDepth 100000 in
theorem kX5_dropN {G : xG} {l : Launch} {d : Nat} {h : xH} {Q : Option Value → xH → Prop} {sc pg sx sy al ed : Nat} {C : Nat → Nat} {B : Nat → Nat → Nat} {p : xPv} {n : Int32} {U : Nat → Nat → Int32} {md : Int32} {N : Nat} {I : Nat → xSi} {V : Nat → Nat → Nat → Int32} {s : Int32} (hK : xCls G sc pg sx sy al ed C B p n U md N I V h) (hs : s < 0 ∨ nI N ≤ s) (hQ : Q (some (.int (-1))) h) : xV G l mX5_drop (d + 4) 0 0 0 0 0 [.ref sc, .int s, xU] [] h Q := by
  refine x_aload_n dX5_drop_0 rfl ?_
  refine x_iload_n dX5_drop_1 rfl ?_
  refine x_callV (M' := mX5_seriesOf) (mc' := 0) (ms' := 0) (As := [.int s]) dX5_drop_2 gX5_drop_X5_seriesOf okX5_seriesOf rfl rfl hK.1 rfl (Nat.le_of_ble_eq_true rfl) (Nat.le_of_ble_eq_true rfl) (Nat.le_refl _) (Nat.le_refl _) (Nat.le_refl _) ?_
  refine kX5_seriesOfN hK hs ?_
  show xV _ _ _ _ _ _ _ _ _ _ _ _ _
  refine x_astore_nN dX5_drop_5 (by decide) rfl ?_
  refine x_aload_nN dX5_drop_6 rfl ?_
  refine x_ifnonnullN dX5_drop_7 ?_
  refine x_iconst (v := (-1)) dX5_drop_10 (by decide) ?_
  exact x_iret dX5_drop_11 rfl hQ
set_option maxHeartbeats 4000000 in
set_option maxRecDepth 100000 in
theorem kX5_countN {G : xG} {l : Launch} {d : Nat} {h : xH} {Q : Option Value → xH → Prop} {sc pg sx sy al ed : Nat} {C : Nat → Nat} {B : Nat → Nat → Nat} {p : xPv} {n : Int32} {U : Nat → Nat → Int32} {md : Int32} {N : Nat} {I : Nat → xSi} {V : Nat → Nat → Nat → Int32} {s w : Int32} (hK : xCls G sc pg sx sy al ed C B p n U md N I V h) (hs : s < 0 ∨ nI N ≤ s) (hQ : Q (some (.int (-1))) h) : xV G l mX5_count (d + 4) 0 0 0 0 0 [.ref sc, .int s, .int w, xU] [] h Q := by
  refine x_aload_n dX5_count_0 rfl ?_
  refine x_iload_n dX5_count_1 rfl ?_
  refine x_callV (M' := mX5_seriesOf) (mc' := 0) (ms' := 0) (As := [.int s]) dX5_count_2 gX5_count_X5_seriesOf okX5_seriesOf rfl rfl hK.1 rfl (Nat.le_of_ble_eq_true rfl) (Nat.le_of_ble_eq_true rfl) (Nat.le_refl _) (Nat.le_refl _) (Nat.le_refl _) ?_
  refine kX5_seriesOfN hK hs ?_
  show xV _ _ _ _ _ _ _ _ _ _ _ _ _
  refine x_astore_nN dX5_count_5 (by decide) rfl ?_
  refine x_aload_nN dX5_count_6 rfl ?_
  refine x_ifnonnullN dX5_count_7 ?_
  refine x_iconst (v := (-1)) dX5_count_10 (by decide) ?_
  exact x_iret dX5_count_11 rfl hQ
