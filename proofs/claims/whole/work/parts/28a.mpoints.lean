set_option maxHeartbeats 4000000 in
set_option maxRecDepth 100000 in
theorem kX6_comes {G : xG} {l : Launch} {d : Nat} {h : xH} {Q : Option Value → xH → Prop} {A : Nat → Nat} {I : xMi} {V : Nat → Nat → Int32} {s a b q g : Int32} (hM : xMod G A I V h) (hA : ∀ {i j : Nat}, i ≠ j → A i ≠ A j) (hs : vp_in s 6) (hpt : ¬ V 11 (Int32.toNatClampNeg s) = 24 → vp_in ((24 * s) + V 11 (Int32.toNatClampNeg s)) 144) (hg : g = 0 ∨ g = 1) (hQ : (if ((V 11) (Int32.toNatClampNeg s)) = (24 : Int32) then Q (some (.int (-3 : Int32))) h else (∀ h', xMod G A (I.1, I.2.1, I.2.2.1, I.2.2.2.1, (0 : Int32)) (va_up (va_up (va_up (va_up (va_up V 12 (upd (V 12) (Int32.toNatClampNeg (((24 : Int32) * s) + ((V 11) (Int32.toNatClampNeg s)))) a)) 13 (upd (V 13) (Int32.toNatClampNeg (((24 : Int32) * s) + ((V 11) (Int32.toNatClampNeg s)))) b)) 14 (upd (V 14) (Int32.toNatClampNeg (((24 : Int32) * s) + ((V 11) (Int32.toNatClampNeg s)))) q)) 15 (upd (V 15) (Int32.toNatClampNeg (((24 : Int32) * s) + ((V 11) (Int32.toNatClampNeg s)))) g)) 11 (upd (V 11) (Int32.toNatClampNeg s) (((V 11) (Int32.toNatClampNeg s)) + (1 : Int32)))) h' → xfM A h h' → Q (some (.int (((upd (V 11) (Int32.toNatClampNeg s) (((V 11) (Int32.toNatClampNeg s)) + (1 : Int32))) (Int32.toNatClampNeg s)) - (1 : Int32)))) h'))) : xV G l mX6_comes d 0 0 0 0 0 [.ref (A 0), .int s, .int a, .int b, .int q, .int g, xU] [] h Q := by
  refine x_aload_n dX6_comes_0 rfl ?_
  refine x_get 11 dX6_comes_1 hM.1 rfl (by decide) (by decide +kernel) rfl ?_
  refine x_iload_n dX6_comes_4 rfl ?_
  refine x_iald dX6_comes_5 (hM.r 11 (by decide) (by decide)) hs ?_
  refine x_bipush (v := 24) dX6_comes_6 (by decide) ?_
  refine x_icmp_ne (tgt := 14) dX6_comes_8 (by decide) (fun hc_8 => ?_) (fun hc_8 => ?_)
  · refine x_bipush (v := 24) dX6_comes_14 (by decide) ?_
    refine x_iload_n dX6_comes_16 rfl ?_
    refine x_imul dX6_comes_17 ?_
    refine x_aload_n dX6_comes_18 rfl ?_
    refine x_get 11 dX6_comes_19 hM.1 rfl (by decide) (by decide +kernel) rfl ?_
    refine x_iload_n dX6_comes_22 rfl ?_
    refine x_iald dX6_comes_23 (hM.r 11 (by decide) (by decide)) hs ?_
    refine x_iadd dX6_comes_24 ?_
    refine x_istore dX6_comes_25 (by decide) rfl ?_
    refine x_aload_n dX6_comes_27 rfl ?_
    refine x_get 12 dX6_comes_28 hM.1 rfl (by decide) (by decide +kernel) rfl ?_
    refine x_iload dX6_comes_31 rfl ?_
    refine x_iload_n dX6_comes_33 rfl ?_
    refine x_iast dX6_comes_34 (hM.r 12 (by decide) (by decide)) (hpt hc_8) ?_
    refine x_aload_n dX6_comes_35 rfl ?_
    refine x_get 13 dX6_comes_36 (xup_k (hA (by decide)) hM.1) rfl (by decide) (by decide +kernel) rfl ?_
    refine x_iload dX6_comes_39 rfl ?_
    refine x_iload_n dX6_comes_41 rfl ?_
    refine x_iast dX6_comes_42 (xup_k (hA (by decide)) (hM.r 13 (by decide) (by decide))) (hpt hc_8) ?_
    refine x_aload_n dX6_comes_43 rfl ?_
    refine x_get 14 dX6_comes_44 (xup_k (hA (by decide)) (xup_k (hA (by decide)) hM.1)) rfl (by decide) (by decide +kernel) rfl ?_
    refine x_iload dX6_comes_47 rfl ?_
    refine x_iload dX6_comes_49 rfl ?_
    refine x_iast dX6_comes_51 (xup_k (hA (by decide)) (xup_k (hA (by decide)) (hM.r 14 (by decide) (by decide)))) (hpt hc_8) ?_
    refine x_aload_n dX6_comes_52 rfl ?_
    refine x_get 15 dX6_comes_53 (xup_k (hA (by decide)) (xup_k (hA (by decide)) (xup_k (hA (by decide)) hM.1))) rfl (by decide) (by decide +kernel) rfl ?_
    refine x_iload dX6_comes_56 rfl ?_
    refine x_iload dX6_comes_58 rfl ?_
    refine x_zast dX6_comes_60 (xup_k (hA (by decide)) (xup_k (hA (by decide)) (xup_k (hA (by decide)) hM.z))) (hpt hc_8) (nbz hg) ?_
    refine x_aload_n dX6_comes_61 rfl ?_
    refine x_get 11 dX6_comes_62 (xup_k (hA (by decide)) (xup_k (hA (by decide)) (xup_k (hA (by decide)) (xup_k (hA (by decide)) hM.1)))) rfl (by decide) (by decide +kernel) rfl ?_
    refine x_iload_n dX6_comes_65 rfl ?_
    refine x_dup2 dX6_comes_66 rfl rfl ?_
    refine x_iald dX6_comes_67 (xup_k (hA (by decide)) (xup_k (hA (by decide)) (xup_k (hA (by decide)) (xup_k (hA (by decide)) (hM.r 11 (by decide) (by decide)))))) hs ?_
    refine x_iconst (v := 1) dX6_comes_68 (by decide) ?_
    refine x_iadd dX6_comes_69 ?_
    refine x_iast dX6_comes_70 (xup_k (hA (by decide)) (xup_k (hA (by decide)) (xup_k (hA (by decide)) (xup_k (hA (by decide)) (hM.r 11 (by decide) (by decide)))))) hs ?_
    refine x_aload_n dX6_comes_71 rfl ?_
    refine x_iconst (v := 0) dX6_comes_72 (by decide) ?_
    refine x_put 22 dX6_comes_73 (xup_k (hA (by decide)) (xup_k (hA (by decide)) (xup_k (hA (by decide)) (xup_k (hA (by decide)) (xup_k (hA (by decide)) hM.1))))) rfl (by decide) (by decide +kernel) rfl rfl rfl rfl (Nat.le_of_ble_eq_true rfl) ?_
    refine x_aload_n dX6_comes_76 rfl ?_
    refine x_get 11 dX6_comes_77 xup_s rfl (by decide) (by decide +kernel) rfl ?_
    refine x_iload_n dX6_comes_80 rfl ?_
    refine x_iald dX6_comes_81 (xup_k (hA (by decide)) xup_s) hs ?_
    refine x_iconst (v := 1) dX6_comes_82 (by decide) ?_
    refine x_isub dX6_comes_83 ?_
    rw [if_neg hc_8] at hQ
    exact x_iret dX6_comes_84 rfl (hQ _ ((((((hM.w hA 12 (by decide) (upd (V 12) (Int32.toNatClampNeg (((24 : Int32) * s) + ((V 11) (Int32.toNatClampNeg s)))) a)).w hA 13 (by decide) (upd (V 13) (Int32.toNatClampNeg (((24 : Int32) * s) + ((V 11) (Int32.toNatClampNeg s)))) b)).w hA 14 (by decide) (upd (V 14) (Int32.toNatClampNeg (((24 : Int32) * s) + ((V 11) (Int32.toNatClampNeg s)))) q)).w hA 15 (by decide) (upd (V 15) (Int32.toNatClampNeg (((24 : Int32) * s) + ((V 11) (Int32.toNatClampNeg s)))) g)).w hA 11 (by decide) (upd (V 11) (Int32.toNatClampNeg s) (((V 11) (Int32.toNatClampNeg s)) + (1 : Int32)))).o hA (I.1, I.2.1, I.2.2.1, I.2.2.2.1, (0 : Int32))) (fun a9 ha => by rw [xup_n (ha 0), xup_n (ha 11), xup_n (ha 15), xup_n (ha 14), xup_n (ha 13), xup_n (ha 12)]))
  · refine x_bipush (v := (-3)) dX6_comes_11 (by decide) ?_
    rw [if_pos hc_8] at hQ
    exact x_iret dX6_comes_13 rfl hQ
set_option maxHeartbeats 4000000 in
set_option maxRecDepth 100000 in
theorem kX6_point {G : xG} {l : Launch} {d : Nat} {h : xH} {Q : Option Value → xH → Prop} {A : Nat → Nat} {I : xMi} {V : Nat → Nat → Int32} {s a b q : Int32} (hM : xMod G A I V h) (hA : ∀ {i j : Nat}, i ≠ j → A i ≠ A j) (h6 : I.2.2.1.toInt ≤ 6) (h0 : 0 ≤ I.2.2.1.toInt) (hpt : vp_in s 6 → ¬ V 11 (Int32.toNatClampNeg s) = 24 → vp_in ((24 * s) + V 11 (Int32.toNatClampNeg s)) 144) (hQ : (if (FX6_isSeries I V s) = 0 then Q (some (.int (-1 : Int32))) h else (if (FX6_isValue a) = 0 then Q (some (.int (-1 : Int32))) h else (if (FX6_isValue b) = 0 then Q (some (.int (-1 : Int32))) h else (if (FX6_in q (0 : Int32) (1000000 : Int32)) = 0 then Q (some (.int (-1 : Int32))) h else (if V 11 (Int32.toNatClampNeg s) = 24 then Q (some (.int (-3 : Int32))) h else (∀ h', xMod G A (I.1, I.2.1, I.2.2.1, I.2.2.2.1, (0 : Int32)) (va_up (va_up (va_up (va_up (va_up V 12 (upd (V 12) (Int32.toNatClampNeg (((24 : Int32) * s) + ((V 11) (Int32.toNatClampNeg s)))) a)) 13 (upd (V 13) (Int32.toNatClampNeg (((24 : Int32) * s) + ((V 11) (Int32.toNatClampNeg s)))) b)) 14 (upd (V 14) (Int32.toNatClampNeg (((24 : Int32) * s) + ((V 11) (Int32.toNatClampNeg s)))) q)) 15 (upd (V 15) (Int32.toNatClampNeg (((24 : Int32) * s) + ((V 11) (Int32.toNatClampNeg s)))) (0 : Int32))) 11 (upd (V 11) (Int32.toNatClampNeg s) (((V 11) (Int32.toNatClampNeg s)) + (1 : Int32)))) h' → xfM A h h' → Q (some (.int (((upd (V 11) (Int32.toNatClampNeg s) (((V 11) (Int32.toNatClampNeg s)) + (1 : Int32))) (Int32.toNatClampNeg s)) - (1 : Int32)))) h'))))))) : xV G l mX6_point (d + 2) 0 0 0 0 0 [.ref (A 0), .int s, .int a, .int b, .int q] [] h Q := by
  refine x_aload_n dX6_point_0 rfl ?_
  refine x_iload_n dX6_point_1 rfl ?_
  refine x_callV (M' := mX6_isSeries) (mc' := 0) (ms' := 0) (As := [.int s]) dX6_point_2 gX6_point_X6_isSeries okX6_isSeries rfl rfl hM.1 rfl (Nat.le_of_ble_eq_true rfl) (Nat.le_of_ble_eq_true rfl) (Nat.le_refl _) (Nat.le_refl _) (Nat.le_refl _) ?_
  refine kX6_isSeries hM  ?_
  show xV _ _ _ _ _ _ _ _ _ _ _ _ _
  refine x_if_eq (tgt := 46) dX6_point_5 (by decide) (fun hc_5 => ?_) (fun hc_5 => ?_)
  · refine x_iconst (v := (-1)) dX6_point_46 (by decide) ?_
    rw [if_pos hc_5] at hQ
    exact x_iret dX6_point_47 rfl hQ
  · refine x_iload_n dX6_point_8 rfl ?_
    refine x_callS (M' := mX6_isValue) (mc' := 0) (ms' := 0) (As := [.int a]) dX6_point_9 gX6_point_X6_isValue okX6_isValue rfl rfl (Nat.le_of_ble_eq_true rfl) (Nat.le_of_ble_eq_true rfl) (Nat.le_refl _) (Nat.le_refl _) (Nat.le_refl _) ?_
    refine kX6_isValue  ?_
    show xV _ _ _ _ _ _ _ _ _ _ _ _ _
    refine x_if_eq (tgt := 46) dX6_point_12 (by decide) (fun hc_12 => ?_) (fun hc_12 => ?_)
    · refine x_iconst (v := (-1)) dX6_point_46 (by decide) ?_
      rw [if_neg hc_5, if_pos hc_12] at hQ
      exact x_iret dX6_point_47 rfl hQ
    · refine x_iload_n dX6_point_15 rfl ?_
      refine x_callS (M' := mX6_isValue) (mc' := 0) (ms' := 0) (As := [.int b]) dX6_point_16 gX6_point_X6_isValue okX6_isValue rfl rfl (Nat.le_of_ble_eq_true rfl) (Nat.le_of_ble_eq_true rfl) (Nat.le_refl _) (Nat.le_refl _) (Nat.le_refl _) ?_
      refine kX6_isValue  ?_
      show xV _ _ _ _ _ _ _ _ _ _ _ _ _
      refine x_if_eq (tgt := 46) dX6_point_19 (by decide) (fun hc_19 => ?_) (fun hc_19 => ?_)
      · refine x_iconst (v := (-1)) dX6_point_46 (by decide) ?_
        rw [if_neg hc_5, if_neg hc_12, if_pos hc_19] at hQ
        exact x_iret dX6_point_47 rfl hQ
      · refine x_iload dX6_point_22 rfl ?_
        refine x_iconst (v := 0) dX6_point_24 (by decide) ?_
        refine x_ldc (v := 1000000) dX6_point_25 (by decide +kernel) ?_
        refine x_callS (M' := mX6_in) (mc' := 0) (ms' := 0) (As := [.int q, .int (0 : Int32), .int (1000000 : Int32)]) dX6_point_27 gX6_point_X6_in okX6_in rfl rfl (Nat.le_of_ble_eq_true rfl) (Nat.le_of_ble_eq_true rfl) (Nat.le_refl _) (Nat.le_refl _) (Nat.le_refl _) ?_
        refine kX6_in  ?_
        show xV _ _ _ _ _ _ _ _ _ _ _ _ _
        refine x_if_eq (tgt := 46) dX6_point_30 (by decide) (fun hc_30 => ?_) (fun hc_30 => ?_)
        · refine x_iconst (v := (-1)) dX6_point_46 (by decide) ?_
          rw [if_neg hc_5, if_neg hc_12, if_neg hc_19, if_pos hc_30] at hQ
          exact x_iret dX6_point_47 rfl hQ
        · refine x_aload_n dX6_point_33 rfl ?_
          refine x_iload_n dX6_point_34 rfl ?_
          refine x_iload_n dX6_point_35 rfl ?_
          refine x_iload_n dX6_point_36 rfl ?_
          refine x_iload dX6_point_37 rfl ?_
          refine x_iconst (v := 0) dX6_point_39 (by decide) ?_
          refine x_callV (M' := mX6_comes) (mc' := 0) (ms' := 0) (As := [.int s, .int a, .int b, .int q, .int (0 : Int32)]) dX6_point_40 gX6_point_X6_comes okX6_comes rfl rfl hM.1 rfl (Nat.le_of_ble_eq_true rfl) (Nat.le_of_ble_eq_true rfl) (Nat.le_refl _) (Nat.le_refl _) (Nat.le_refl _) ?_
          refine kX6_comes hM hA (ser_in h6 h0 hc_5) (hpt (ser_in h6 h0 hc_5)) (Or.inl rfl) ?_
          by_cases hp24 : V 11 (Int32.toNatClampNeg s) = 24
          · rw [if_pos hp24]
            show xV _ _ _ _ _ _ _ _ _ _ _ _ _
            refine x_goto (tgt := 47) dX6_point_43 (by decide) ?_
            rw [if_neg hc_5, if_neg hc_12, if_neg hc_19, if_neg hc_30, if_pos hp24] at hQ
            exact x_iret dX6_point_47 rfl hQ
          · rw [if_neg hp24]
            intro h9 hM9 hF9
            show xV _ _ _ _ _ _ _ _ _ _ _ _ _
            refine x_goto (tgt := 47) dX6_point_43 (by decide) ?_
            rw [if_neg hc_5, if_neg hc_12, if_neg hc_19, if_neg hc_30, if_neg hp24] at hQ
            exact x_iret dX6_point_47 rfl (hQ _ hM9 hF9)
set_option maxHeartbeats 4000000 in
set_option maxRecDepth 100000 in
theorem kX6_gap {G : xG} {l : Launch} {d : Nat} {h : xH} {Q : Option Value → xH → Prop} {A : Nat → Nat} {I : xMi} {V : Nat → Nat → Int32} {s : Int32} (hM : xMod G A I V h) (hA : ∀ {i j : Nat}, i ≠ j → A i ≠ A j) (h6 : I.2.2.1.toInt ≤ 6) (h0 : 0 ≤ I.2.2.1.toInt) (hpt : vp_in s 6 → ¬ V 11 (Int32.toNatClampNeg s) = 24 → vp_in ((24 * s) + V 11 (Int32.toNatClampNeg s)) 144) (hQ : (if (FX6_isSeries I V s) = 0 then Q (some (.int (-1 : Int32))) h else (if V 11 (Int32.toNatClampNeg s) = 24 then Q (some (.int (-3 : Int32))) h else (∀ h', xMod G A (I.1, I.2.1, I.2.2.1, I.2.2.2.1, (0 : Int32)) (va_up (va_up (va_up (va_up (va_up V 12 (upd (V 12) (Int32.toNatClampNeg (((24 : Int32) * s) + ((V 11) (Int32.toNatClampNeg s)))) (0 : Int32))) 13 (upd (V 13) (Int32.toNatClampNeg (((24 : Int32) * s) + ((V 11) (Int32.toNatClampNeg s)))) (0 : Int32))) 14 (upd (V 14) (Int32.toNatClampNeg (((24 : Int32) * s) + ((V 11) (Int32.toNatClampNeg s)))) (0 : Int32))) 15 (upd (V 15) (Int32.toNatClampNeg (((24 : Int32) * s) + ((V 11) (Int32.toNatClampNeg s)))) (1 : Int32))) 11 (upd (V 11) (Int32.toNatClampNeg s) (((V 11) (Int32.toNatClampNeg s)) + (1 : Int32)))) h' → xfM A h h' → Q (some (.int (((upd (V 11) (Int32.toNatClampNeg s) (((V 11) (Int32.toNatClampNeg s)) + (1 : Int32))) (Int32.toNatClampNeg s)) - (1 : Int32)))) h')))) : xV G l mX6_gap (d + 2) 0 0 0 0 0 [.ref (A 0), .int s] [] h Q := by
  refine x_aload_n dX6_gap_0 rfl ?_
  refine x_iload_n dX6_gap_1 rfl ?_
  refine x_callV (M' := mX6_isSeries) (mc' := 0) (ms' := 0) (As := [.int s]) dX6_gap_2 gX6_gap_X6_isSeries okX6_isSeries rfl rfl hM.1 rfl (Nat.le_of_ble_eq_true rfl) (Nat.le_of_ble_eq_true rfl) (Nat.le_refl _) (Nat.le_refl _) (Nat.le_refl _) ?_
  refine kX6_isSeries hM  ?_
  show xV _ _ _ _ _ _ _ _ _ _ _ _ _
  refine x_if_eq (tgt := 20) dX6_gap_5 (by decide) (fun hc_5 => ?_) (fun hc_5 => ?_)
  · refine x_iconst (v := (-1)) dX6_gap_20 (by decide) ?_
    rw [if_pos hc_5] at hQ
    exact x_iret dX6_gap_21 rfl hQ
  · refine x_aload_n dX6_gap_8 rfl ?_
    refine x_iload_n dX6_gap_9 rfl ?_
    refine x_iconst (v := 0) dX6_gap_10 (by decide) ?_
    refine x_iconst (v := 0) dX6_gap_11 (by decide) ?_
    refine x_iconst (v := 0) dX6_gap_12 (by decide) ?_
    refine x_iconst (v := 1) dX6_gap_13 (by decide) ?_
    refine x_callV (M' := mX6_comes) (mc' := 0) (ms' := 0) (As := [.int s, .int (0 : Int32), .int (0 : Int32), .int (0 : Int32), .int (1 : Int32)]) dX6_gap_14 gX6_gap_X6_comes okX6_comes rfl rfl hM.1 rfl (Nat.le_of_ble_eq_true rfl) (Nat.le_of_ble_eq_true rfl) (Nat.le_refl _) (Nat.le_refl _) (Nat.le_refl _) ?_
    refine kX6_comes hM hA (ser_in h6 h0 hc_5) (hpt (ser_in h6 h0 hc_5)) (Or.inr rfl) ?_
    by_cases hp24 : V 11 (Int32.toNatClampNeg s) = 24
    · rw [if_pos hp24]
      show xV _ _ _ _ _ _ _ _ _ _ _ _ _
      refine x_goto (tgt := 21) dX6_gap_17 (by decide) ?_
      rw [if_neg hc_5, if_pos hp24] at hQ
      exact x_iret dX6_gap_21 rfl hQ
    · rw [if_neg hp24]
      intro h9 hM9 hF9
      show xV _ _ _ _ _ _ _ _ _ _ _ _ _
      refine x_goto (tgt := 21) dX6_gap_17 (by decide) ?_
      rw [if_neg hc_5, if_neg hp24] at hQ
      exact x_iret dX6_gap_21 rfl (hQ _ hM9 hF9)
theorem many_in {m : Int32} (h6 : m.toInt ≤ 6) (h0 : 0 ≤ m.toInt) (h : ¬ m = 6) : vp_in m 6 := by
  rw [vp_in_iff]
  have : m.toInt ≠ 6 := fun q => h (Int32.toInt_inj.mp (by rw [q]; rfl))
  omega
set_option maxHeartbeats 4000000 in
set_option maxRecDepth 100000 in
theorem kX6_series {G : xG} {l : Launch} {d : Nat} {h : xH} {Q : Option Value → xH → Prop} {A : Nat → Nat} {I : xMi} {V : Nat → Nat → Int32} {a b q : Int32} (hM : xMod G A I V h) (hA : ∀ {i j : Nat}, i ≠ j → A i ≠ A j) (h6 : I.2.2.1.toInt ≤ 6) (h0 : 0 ≤ I.2.2.1.toInt) (hQ : (if (FX6_isStyle (0 : Int32) a) = 0 then Q (some (.int (-1 : Int32))) h else (if (FX6_isStyle (1 : Int32) b) = 0 then Q (some (.int (-1 : Int32))) h else (if (FX6_isStyle (2 : Int32) q) = 0 then Q (some (.int (-1 : Int32))) h else (if I.2.2.1 = (6 : Int32) then Q (some (.int (-3 : Int32))) h else (∀ h', xMod G A (I.1, I.2.1, (I.2.2.1 + (1 : Int32)), I.2.2.2.1, (0 : Int32)) (va_up (va_up (va_up (va_up V 8 (upd (V 8) (Int32.toNatClampNeg I.2.2.1) a)) 9 (upd (V 9) (Int32.toNatClampNeg I.2.2.1) b)) 10 (upd (V 10) (Int32.toNatClampNeg I.2.2.1) q)) 11 (upd (V 11) (Int32.toNatClampNeg I.2.2.1) (0 : Int32))) h' → xfM A h h' → Q (some (.int ((I.2.2.1 + (1 : Int32)) - (1 : Int32)))) h')))))) : xV G l mX6_series (d + 2) 0 0 0 0 0 [.ref (A 0), .int a, .int b, .int q] [] h Q := by
  refine x_iconst (v := 0) dX6_series_0 (by decide) ?_
  refine x_iload_n dX6_series_1 rfl ?_
  refine x_callS (M' := mX6_isStyle) (mc' := 0) (ms' := 0) (As := [.int (0 : Int32), .int a]) dX6_series_2 gX6_series_X6_isStyle okX6_isStyle rfl rfl (Nat.le_of_ble_eq_true rfl) (Nat.le_of_ble_eq_true rfl) (Nat.le_refl _) (Nat.le_refl _) (Nat.le_refl _) ?_
  refine kX6_isStyle  ?_
  show xV _ _ _ _ _ _ _ _ _ _ _ _ _
  refine x_if_eq (tgt := 24) dX6_series_5 (by decide) (fun hc_5 => ?_) (fun hc_5 => ?_)
  · refine x_iconst (v := (-1)) dX6_series_24 (by decide) ?_
    rw [if_pos hc_5] at hQ
    exact x_iret dX6_series_25 rfl hQ
  · refine x_iconst (v := 1) dX6_series_8 (by decide) ?_
    refine x_iload_n dX6_series_9 rfl ?_
    refine x_callS (M' := mX6_isStyle) (mc' := 0) (ms' := 0) (As := [.int (1 : Int32), .int b]) dX6_series_10 gX6_series_X6_isStyle okX6_isStyle rfl rfl (Nat.le_of_ble_eq_true rfl) (Nat.le_of_ble_eq_true rfl) (Nat.le_refl _) (Nat.le_refl _) (Nat.le_refl _) ?_
    refine kX6_isStyle  ?_
    show xV _ _ _ _ _ _ _ _ _ _ _ _ _
    refine x_if_eq (tgt := 24) dX6_series_13 (by decide) (fun hc_13 => ?_) (fun hc_13 => ?_)
    · refine x_iconst (v := (-1)) dX6_series_24 (by decide) ?_
      rw [if_neg hc_5, if_pos hc_13] at hQ
      exact x_iret dX6_series_25 rfl hQ
    · refine x_iconst (v := 2) dX6_series_16 (by decide) ?_
      refine x_iload_n dX6_series_17 rfl ?_
      refine x_callS (M' := mX6_isStyle) (mc' := 0) (ms' := 0) (As := [.int (2 : Int32), .int q]) dX6_series_18 gX6_series_X6_isStyle okX6_isStyle rfl rfl (Nat.le_of_ble_eq_true rfl) (Nat.le_of_ble_eq_true rfl) (Nat.le_refl _) (Nat.le_refl _) (Nat.le_refl _) ?_
      refine kX6_isStyle  ?_
      show xV _ _ _ _ _ _ _ _ _ _ _ _ _
      refine x_if_ne (tgt := 26) dX6_series_21 (by decide) (fun hc_21 => ?_) (fun hc_21 => ?_)
      · refine x_aload_n dX6_series_26 rfl ?_
        refine x_get 7 dX6_series_27 hM.1 rfl (by decide) (by decide +kernel) rfl ?_
        refine x_bipush (v := 6) dX6_series_30 (by decide) ?_
        refine x_icmp_ne (tgt := 38) dX6_series_32 (by decide) (fun hc_32 => ?_) (fun hc_32 => ?_)
        · refine x_aload_n dX6_series_38 rfl ?_
          refine x_get 8 dX6_series_39 hM.1 rfl (by decide) (by decide +kernel) rfl ?_
          refine x_aload_n dX6_series_42 rfl ?_
          refine x_get 7 dX6_series_43 hM.1 rfl (by decide) (by decide +kernel) rfl ?_
          refine x_iload_n dX6_series_46 rfl ?_
          refine x_iast dX6_series_47 (hM.r 8 (by decide) (by decide)) (many_in h6 h0 hc_32) ?_
          refine x_aload_n dX6_series_48 rfl ?_
          refine x_get 9 dX6_series_49 (xup_k (hA (by decide)) hM.1) rfl (by decide) (by decide +kernel) rfl ?_
          refine x_aload_n dX6_series_52 rfl ?_
          refine x_get 7 dX6_series_53 (xup_k (hA (by decide)) hM.1) rfl (by decide) (by decide +kernel) rfl ?_
          refine x_iload_n dX6_series_56 rfl ?_
          refine x_iast dX6_series_57 (xup_k (hA (by decide)) (hM.r 9 (by decide) (by decide))) (many_in h6 h0 hc_32) ?_
          refine x_aload_n dX6_series_58 rfl ?_
          refine x_get 10 dX6_series_59 (xup_k (hA (by decide)) (xup_k (hA (by decide)) hM.1)) rfl (by decide) (by decide +kernel) rfl ?_
          refine x_aload_n dX6_series_62 rfl ?_
          refine x_get 7 dX6_series_63 (xup_k (hA (by decide)) (xup_k (hA (by decide)) hM.1)) rfl (by decide) (by decide +kernel) rfl ?_
          refine x_iload_n dX6_series_66 rfl ?_
          refine x_iast dX6_series_67 (xup_k (hA (by decide)) (xup_k (hA (by decide)) (hM.r 10 (by decide) (by decide)))) (many_in h6 h0 hc_32) ?_
          refine x_aload_n dX6_series_68 rfl ?_
          refine x_get 11 dX6_series_69 (xup_k (hA (by decide)) (xup_k (hA (by decide)) (xup_k (hA (by decide)) hM.1))) rfl (by decide) (by decide +kernel) rfl ?_
          refine x_aload_n dX6_series_72 rfl ?_
          refine x_get 7 dX6_series_73 (xup_k (hA (by decide)) (xup_k (hA (by decide)) (xup_k (hA (by decide)) hM.1))) rfl (by decide) (by decide +kernel) rfl ?_
          refine x_iconst (v := 0) dX6_series_76 (by decide) ?_
          refine x_iast dX6_series_77 (xup_k (hA (by decide)) (xup_k (hA (by decide)) (xup_k (hA (by decide)) (hM.r 11 (by decide) (by decide))))) (many_in h6 h0 hc_32) ?_
          refine x_aload_n dX6_series_78 rfl ?_
          refine x_dup dX6_series_79 rfl ?_
          refine x_get 7 dX6_series_80 (xup_k (hA (by decide)) (xup_k (hA (by decide)) (xup_k (hA (by decide)) (xup_k (hA (by decide)) hM.1)))) rfl (by decide) (by decide +kernel) rfl ?_
          refine x_iconst (v := 1) dX6_series_83 (by decide) ?_
          refine x_iadd dX6_series_84 ?_
          refine x_put 7 dX6_series_85 (xup_k (hA (by decide)) (xup_k (hA (by decide)) (xup_k (hA (by decide)) (xup_k (hA (by decide)) hM.1)))) rfl (by decide) (by decide +kernel) rfl rfl rfl rfl (Nat.le_of_ble_eq_true rfl) ?_
          refine x_aload_n dX6_series_88 rfl ?_
          refine x_iconst (v := 0) dX6_series_89 (by decide) ?_
          refine x_put 22 dX6_series_90 xup_s rfl (by decide) (by decide +kernel) rfl rfl rfl rfl (Nat.le_of_ble_eq_true rfl) ?_
          refine x_heap xup_u ?_
          refine x_aload_n dX6_series_93 rfl ?_
          refine x_get 7 dX6_series_94 xup_s rfl (by decide) (by decide +kernel) rfl ?_
          refine x_iconst (v := 1) dX6_series_97 (by decide) ?_
          refine x_isub dX6_series_98 ?_
          rw [if_neg hc_5, if_neg hc_13, if_neg hc_21, if_neg hc_32] at hQ
          exact x_iret dX6_series_99 rfl (hQ _ (((((hM.w hA 8 (by decide) (upd (V 8) (Int32.toNatClampNeg I.2.2.1) a)).w hA 9 (by decide) (upd (V 9) (Int32.toNatClampNeg I.2.2.1) b)).w hA 10 (by decide) (upd (V 10) (Int32.toNatClampNeg I.2.2.1) q)).w hA 11 (by decide) (upd (V 11) (Int32.toNatClampNeg I.2.2.1) (0 : Int32))).o hA (I.1, I.2.1, (I.2.2.1 + (1 : Int32)), I.2.2.2.1, (0 : Int32))) (fun a9 ha => by rw [xup_n (ha 0), xup_n (ha 11), xup_n (ha 10), xup_n (ha 9), xup_n (ha 8)]))
        · refine x_bipush (v := (-3)) dX6_series_35 (by decide) ?_
          rw [if_neg hc_5, if_neg hc_13, if_neg hc_21, if_pos hc_32] at hQ
          exact x_iret dX6_series_37 rfl hQ
      · refine x_iconst (v := (-1)) dX6_series_24 (by decide) ?_
        rw [if_neg hc_5, if_neg hc_13, if_pos hc_21] at hQ
        exact x_iret dX6_series_25 rfl hQ
set_option maxHeartbeats 4000000 in
set_option maxRecDepth 100000 in
theorem kX6_style {G : xG} {l : Launch} {d : Nat} {h : xH} {Q : Option Value → xH → Prop} {A : Nat → Nat} {I : xMi} {V : Nat → Nat → Int32} {s w v : Int32} (hM : xMod G A I V h) (hA : ∀ {i j : Nat}, i ≠ j → A i ≠ A j) (h6 : I.2.2.1.toInt ≤ 6) (h0 : 0 ≤ I.2.2.1.toInt) (hQ : (if (FX6_isSeries I V s) = 0 then Q (some (.int (-1 : Int32))) h else (if (FX6_isStyle w v) = 0 then Q (some (.int (-1 : Int32))) h else (∀ h', xMod G A (I.1, I.2.1, I.2.2.1, I.2.2.2.1, (0 : Int32)) (va_up (va_up (va_up V 8 (upd (V 8) (Int32.toNatClampNeg s) (if w = 0 then v else ((V 8) (Int32.toNatClampNeg s))))) 9 (upd (V 9) (Int32.toNatClampNeg s) (if w = (1 : Int32) then v else ((V 9) (Int32.toNatClampNeg s))))) 10 (upd (V 10) (Int32.toNatClampNeg s) (if w = (2 : Int32) then v else ((V 10) (Int32.toNatClampNeg s))))) h' → xfM A h h' → Q (some (.int (if w = 0 then ((V 8) (Int32.toNatClampNeg s)) else (if w = (1 : Int32) then ((V 9) (Int32.toNatClampNeg s)) else ((V 10) (Int32.toNatClampNeg s)))))) h')))) : xV G l mX6_style (d + 2) 0 0 0 0 0 [.ref (A 0), .int s, .int w, .int v, xU] [] h Q := by
  refine x_aload_n dX6_style_0 rfl ?_
  refine x_iload_n dX6_style_1 rfl ?_
  refine x_callV (M' := mX6_isSeries) (mc' := 0) (ms' := 0) (As := [.int s]) dX6_style_2 gX6_style_X6_isSeries okX6_isSeries rfl rfl hM.1 rfl (Nat.le_of_ble_eq_true rfl) (Nat.le_of_ble_eq_true rfl) (Nat.le_refl _) (Nat.le_refl _) (Nat.le_refl _) ?_
  refine kX6_isSeries hM  ?_
  show xV _ _ _ _ _ _ _ _ _ _ _ _ _
  refine x_if_eq (tgt := 16) dX6_style_5 (by decide) (fun hc_5 => ?_) (fun hc_5 => ?_)
  · refine x_iconst (v := (-1)) dX6_style_16 (by decide) ?_
    rw [if_pos hc_5] at hQ
    exact x_iret dX6_style_17 rfl hQ
  · refine x_iload_n dX6_style_8 rfl ?_
    refine x_iload_n dX6_style_9 rfl ?_
    refine x_callS (M' := mX6_isStyle) (mc' := 0) (ms' := 0) (As := [.int w, .int v]) dX6_style_10 gX6_style_X6_isStyle okX6_isStyle rfl rfl (Nat.le_of_ble_eq_true rfl) (Nat.le_of_ble_eq_true rfl) (Nat.le_refl _) (Nat.le_refl _) (Nat.le_refl _) ?_
    refine kX6_isStyle  ?_
    show xV _ _ _ _ _ _ _ _ _ _ _ _ _
    refine x_if_ne (tgt := 18) dX6_style_13 (by decide) (fun hc_13 => ?_) (fun hc_13 => ?_)
    · refine x_iload_n dX6_style_18 rfl ?_
      have J51 : xV G l mX6_style (d + 2) 0 0 0 0 51 [.ref (A 0), .int s, .int w, .int v, xU] [.int (if w = 0 then ((V 8) (Int32.toNatClampNeg s)) else (if w = (1 : Int32) then ((V 9) (Int32.toNatClampNeg s)) else ((V 10) (Int32.toNatClampNeg s))))] h Q := by
        refine x_istore dX6_style_51 (by decide) rfl ?_
        refine x_aload_n dX6_style_53 rfl ?_
        refine x_get 8 dX6_style_54 hM.1 rfl (by decide) (by decide +kernel) rfl ?_
        refine x_iload_n dX6_style_57 rfl ?_
        refine x_iload_n dX6_style_58 rfl ?_
        have J72 : xV G l mX6_style (d + 2) 0 0 0 0 72 [.ref (A 0), .int s, .int w, .int v, .int (if w = 0 then ((V 8) (Int32.toNatClampNeg s)) else (if w = (1 : Int32) then ((V 9) (Int32.toNatClampNeg s)) else ((V 10) (Int32.toNatClampNeg s))))] [.int (if w = 0 then v else ((V 8) (Int32.toNatClampNeg s))), .int s, .ref (A 8)] h Q := by
          refine x_iast dX6_style_72 (hM.r 8 (by decide) (by decide)) (ser_in h6 h0 hc_5) ?_
          refine x_aload_n dX6_style_73 rfl ?_
          refine x_get 9 dX6_style_74 (xup_k (hA (by decide)) hM.1) rfl (by decide) (by decide +kernel) rfl ?_
          refine x_iload_n dX6_style_77 rfl ?_
          refine x_iload_n dX6_style_78 rfl ?_
          refine x_iconst (v := 1) dX6_style_79 (by decide) ?_
          have J93 : xV G l mX6_style (d + 2) 0 0 0 0 93 [.ref (A 0), .int s, .int w, .int v, .int (if w = 0 then ((V 8) (Int32.toNatClampNeg s)) else (if w = (1 : Int32) then ((V 9) (Int32.toNatClampNeg s)) else ((V 10) (Int32.toNatClampNeg s))))] [.int (if w = (1 : Int32) then v else ((V 9) (Int32.toNatClampNeg s))), .int s, .ref (A 9)] (xup h (A 8) (xRi G 6 (upd (V 8) (Int32.toNatClampNeg s) (if w = 0 then v else ((V 8) (Int32.toNatClampNeg s)))))) Q := by
            refine x_iast dX6_style_93 (xup_k (hA (by decide)) (hM.r 9 (by decide) (by decide))) (ser_in h6 h0 hc_5) ?_
            refine x_aload_n dX6_style_94 rfl ?_
            refine x_get 10 dX6_style_95 (xup_k (hA (by decide)) (xup_k (hA (by decide)) hM.1)) rfl (by decide) (by decide +kernel) rfl ?_
            refine x_iload_n dX6_style_98 rfl ?_
            refine x_iload_n dX6_style_99 rfl ?_
            refine x_iconst (v := 2) dX6_style_100 (by decide) ?_
            have J114 : xV G l mX6_style (d + 2) 0 0 0 0 114 [.ref (A 0), .int s, .int w, .int v, .int (if w = 0 then ((V 8) (Int32.toNatClampNeg s)) else (if w = (1 : Int32) then ((V 9) (Int32.toNatClampNeg s)) else ((V 10) (Int32.toNatClampNeg s))))] [.int (if w = (2 : Int32) then v else ((V 10) (Int32.toNatClampNeg s))), .int s, .ref (A 10)] (xup (xup h (A 8) (xRi G 6 (upd (V 8) (Int32.toNatClampNeg s) (if w = 0 then v else ((V 8) (Int32.toNatClampNeg s)))))) (A 9) (xRi G 6 (upd (V 9) (Int32.toNatClampNeg s) (if w = (1 : Int32) then v else ((V 9) (Int32.toNatClampNeg s)))))) Q := by
              refine x_iast dX6_style_114 (xup_k (hA (by decide)) (xup_k (hA (by decide)) (hM.r 10 (by decide) (by decide)))) (ser_in h6 h0 hc_5) ?_
              refine x_aload_n dX6_style_115 rfl ?_
              refine x_iconst (v := 0) dX6_style_116 (by decide) ?_
              refine x_put 22 dX6_style_117 (xup_k (hA (by decide)) (xup_k (hA (by decide)) (xup_k (hA (by decide)) hM.1))) rfl (by decide) (by decide +kernel) rfl rfl rfl rfl (Nat.le_of_ble_eq_true rfl) ?_
              refine x_iload dX6_style_120 rfl ?_
              rw [if_neg hc_5, if_neg hc_13] at hQ
              exact x_iret dX6_style_122 rfl (hQ _ ((((hM.w hA 8 (by decide) (upd (V 8) (Int32.toNatClampNeg s) (if w = 0 then v else ((V 8) (Int32.toNatClampNeg s))))).w hA 9 (by decide) (upd (V 9) (Int32.toNatClampNeg s) (if w = (1 : Int32) then v else ((V 9) (Int32.toNatClampNeg s))))).w hA 10 (by decide) (upd (V 10) (Int32.toNatClampNeg s) (if w = (2 : Int32) then v else ((V 10) (Int32.toNatClampNeg s))))).o hA (I.1, I.2.1, I.2.2.1, I.2.2.2.1, (0 : Int32))) (fun a9 ha => by rw [xup_n (ha 0), xup_n (ha 10), xup_n (ha 9), xup_n (ha 8)]))
            refine x_icmp_ne (tgt := 108) dX6_style_101 (by decide) (fun hc_101 => ?_) (fun hc_101 => ?_)
            · refine x_aload_n dX6_style_108 rfl ?_
              refine x_get 10 dX6_style_109 (xup_k (hA (by decide)) (xup_k (hA (by decide)) hM.1)) rfl (by decide) (by decide +kernel) rfl ?_
              refine x_iload_n dX6_style_112 rfl ?_
              refine x_iald dX6_style_113 (xup_k (hA (by decide)) (xup_k (hA (by decide)) (hM.r 10 (by decide) (by decide)))) (ser_in h6 h0 hc_5) ?_
              exact x_ls rfl (by first | rfl | (rw [if_neg hc_101] <;> rfl) | (simp only [if_neg hc_101]; rfl) | (simp only [if_neg hc_101])) J114
            · refine x_iload_n dX6_style_104 rfl ?_
              refine x_goto (tgt := 114) dX6_style_105 (by decide) ?_
              exact x_ls rfl (by first | rfl | (rw [if_pos hc_101] <;> rfl) | (simp only [if_pos hc_101]; rfl) | (simp only [if_pos hc_101])) J114
          refine x_icmp_ne (tgt := 87) dX6_style_80 (by decide) (fun hc_80 => ?_) (fun hc_80 => ?_)
          · refine x_aload_n dX6_style_87 rfl ?_
            refine x_get 9 dX6_style_88 (xup_k (hA (by decide)) hM.1) rfl (by decide) (by decide +kernel) rfl ?_
            refine x_iload_n dX6_style_91 rfl ?_
            refine x_iald dX6_style_92 (xup_k (hA (by decide)) (hM.r 9 (by decide) (by decide))) (ser_in h6 h0 hc_5) ?_
            exact x_ls rfl (by first | rfl | (rw [if_neg hc_80] <;> rfl) | (simp only [if_neg hc_80]; rfl) | (simp only [if_neg hc_80])) J93
          · refine x_iload_n dX6_style_83 rfl ?_
            refine x_goto (tgt := 93) dX6_style_84 (by decide) ?_
            exact x_ls rfl (by first | rfl | (rw [if_pos hc_80] <;> rfl) | (simp only [if_pos hc_80]; rfl) | (simp only [if_pos hc_80])) J93
        refine x_if_ne (tgt := 66) dX6_style_59 (by decide) (fun hc_59 => ?_) (fun hc_59 => ?_)
        · refine x_aload_n dX6_style_66 rfl ?_
          refine x_get 8 dX6_style_67 hM.1 rfl (by decide) (by decide +kernel) rfl ?_
          refine x_iload_n dX6_style_70 rfl ?_
          refine x_iald dX6_style_71 (hM.r 8 (by decide) (by decide)) (ser_in h6 h0 hc_5) ?_
          exact x_ls rfl (by first | rfl | (rw [if_neg hc_59] <;> rfl) | (simp only [if_neg hc_59]; rfl) | (simp only [if_neg hc_59])) J72
        · refine x_iload_n dX6_style_62 rfl ?_
          refine x_goto (tgt := 72) dX6_style_63 (by decide) ?_
          exact x_ls rfl (by first | rfl | (rw [if_pos hc_59] <;> rfl) | (simp only [if_pos hc_59]; rfl) | (simp only [if_pos hc_59])) J72
      refine x_if_ne (tgt := 31) dX6_style_19 (by decide) (fun hc_19 => ?_) (fun hc_19 => ?_)
      · refine x_iload_n dX6_style_31 rfl ?_
        refine x_iconst (v := 1) dX6_style_32 (by decide) ?_
        refine x_icmp_ne (tgt := 45) dX6_style_33 (by decide) (fun hc_33 => ?_) (fun hc_33 => ?_)
        · refine x_aload_n dX6_style_45 rfl ?_
          refine x_get 10 dX6_style_46 hM.1 rfl (by decide) (by decide +kernel) rfl ?_
          refine x_iload_n dX6_style_49 rfl ?_
          refine x_iald dX6_style_50 (hM.r 10 (by decide) (by decide)) (ser_in h6 h0 hc_5) ?_
          exact x_ls rfl (by first | rfl | (rw [if_neg hc_19, if_neg hc_33] <;> rfl) | (simp only [if_neg hc_19, if_neg hc_33]; rfl) | (simp only [if_neg hc_19, if_neg hc_33])) J51
        · refine x_aload_n dX6_style_36 rfl ?_
          refine x_get 9 dX6_style_37 hM.1 rfl (by decide) (by decide +kernel) rfl ?_
          refine x_iload_n dX6_style_40 rfl ?_
          refine x_iald dX6_style_41 (hM.r 9 (by decide) (by decide)) (ser_in h6 h0 hc_5) ?_
          refine x_goto (tgt := 51) dX6_style_42 (by decide) ?_
          exact x_ls rfl (by first | rfl | (rw [if_neg hc_19, if_pos hc_33] <;> rfl) | (simp only [if_neg hc_19, if_pos hc_33]; rfl) | (simp only [if_neg hc_19, if_pos hc_33])) J51
      · refine x_aload_n dX6_style_22 rfl ?_
        refine x_get 8 dX6_style_23 hM.1 rfl (by decide) (by decide +kernel) rfl ?_
        refine x_iload_n dX6_style_26 rfl ?_
        refine x_iald dX6_style_27 (hM.r 8 (by decide) (by decide)) (ser_in h6 h0 hc_5) ?_
        refine x_goto (tgt := 51) dX6_style_28 (by decide) ?_
        exact x_ls rfl (by first | rfl | (rw [if_pos hc_19] <;> rfl) | (simp only [if_pos hc_19]; rfl) | (simp only [if_pos hc_19])) J51
    · refine x_iconst (v := (-1)) dX6_style_16 (by decide) ?_
      rw [if_neg hc_5, if_pos hc_13] at hQ
      exact x_iret dX6_style_17 rfl hQ
theorem tl_in {w : Int32} {k : Int32} (h : w = k ∨ w = k + 1) (hk : k.toInt = 4 ∨ k.toInt = 6 ∨ k.toInt = 8) : vp_in (w - k) 2 := by
  rcases h with rfl | rfl
  · rw [Int32.sub_self]; exact ax0
  · rw [Int32.add_comm, Int32.add_sub_cancel]; exact ax1
def FX6_told (I : xMi) (V : Nat → Nat → Int32) (w : Int32) : Int32 := (if w = 0 then I.2.2.1 else (if w = 1 then I.2.2.2.1 else (if w = 2 then I.1 else (if w = 3 then I.2.1 else (if w = 4 then ((V 2) (Int32.toNatClampNeg (w - (4 : Int32)))) else (if w = 5 then ((V 2) (Int32.toNatClampNeg (w - (4 : Int32)))) else (if w = 6 then ((V 3) (Int32.toNatClampNeg (w - (6 : Int32)))) else (if w = 7 then ((V 3) (Int32.toNatClampNeg (w - (6 : Int32)))) else (if w = 8 then ((V 4) (Int32.toNatClampNeg (w - (8 : Int32)))) else (if w = 9 then ((V 4) (Int32.toNatClampNeg (w - (8 : Int32)))) else (-2000000000 : Int32)))))))))))
set_option maxHeartbeats 4000000 in
set_option maxRecDepth 100000 in
theorem kX6_told {G : xG} {l : Launch} {d : Nat} {h : xH} {Q : Option Value → xH → Prop} {A : Nat → Nat} {I : xMi} {V : Nat → Nat → Int32} {w : Int32} (hM : xMod G A I V h)   (hQ : Q (some (.int (FX6_told I V w))) h) : xV G l mX6_told d 0 0 0 0 0 [.ref (A 0), .int w] [] h Q := by
  refine x_iload_n dX6_told_0 rfl ?_
  by_cases hs_1_0 : w = 0
  · refine x_tcase hs_1_0 (tgt := 56) (off := 55) dX6_told_1 (by decide) (by decide) (by decide) (by decide) ?_
    refine x_aload_n dX6_told_56 rfl ?_
    refine x_get 7 dX6_told_57 hM.1 rfl (by decide) (by decide +kernel) rfl ?_
    exact x_iret dX6_told_60 rfl (xri (by unfold FX6_told; rw [if_pos hs_1_0]) hQ)
  by_cases hs_1_1 : w = 1
  · refine x_tcase hs_1_1 (tgt := 61) (off := 60) dX6_told_1 (by decide) (by decide) (by decide) (by decide) ?_
    refine x_aload_n dX6_told_61 rfl ?_
    refine x_get 16 dX6_told_62 hM.1 rfl (by decide) (by decide +kernel) rfl ?_
    exact x_iret dX6_told_65 rfl (xri (by unfold FX6_told; rw [if_neg hs_1_0, if_pos hs_1_1]) hQ)
  by_cases hs_1_2 : w = 2
  · refine x_tcase hs_1_2 (tgt := 66) (off := 65) dX6_told_1 (by decide) (by decide) (by decide) (by decide) ?_
    refine x_aload_n dX6_told_66 rfl ?_
    refine x_get 0 dX6_told_67 hM.1 rfl (by decide) (by decide +kernel) rfl ?_
    exact x_iret dX6_told_70 rfl (xri (by unfold FX6_told; rw [if_neg hs_1_0, if_neg hs_1_1, if_pos hs_1_2]) hQ)
  by_cases hs_1_3 : w = 3
  · refine x_tcase hs_1_3 (tgt := 71) (off := 70) dX6_told_1 (by decide) (by decide) (by decide) (by decide) ?_
    refine x_aload_n dX6_told_71 rfl ?_
    refine x_get 1 dX6_told_72 hM.1 rfl (by decide) (by decide +kernel) rfl ?_
    exact x_iret dX6_told_75 rfl (xri (by unfold FX6_told; rw [if_neg hs_1_0, if_neg hs_1_1, if_neg hs_1_2, if_pos hs_1_3]) hQ)
  by_cases hs_1_4 : w = 4
  · refine x_tcase hs_1_4 (tgt := 76) (off := 75) dX6_told_1 (by decide) (by decide) (by decide) (by decide) ?_
    refine x_aload_n dX6_told_76 rfl ?_
    refine x_get 2 dX6_told_77 hM.1 rfl (by decide) (by decide +kernel) rfl ?_
    refine x_iload_n dX6_told_80 rfl ?_
    refine x_iconst (v := 4) dX6_told_81 (by decide) ?_
    refine x_isub dX6_told_82 ?_
    refine x_iald dX6_told_83 (hM.r 2 (by decide) (by decide)) (tl_in (k := 4) (Or.inl hs_1_4) (by decide)) ?_
    exact x_iret dX6_told_84 rfl (xri (by unfold FX6_told; rw [if_neg hs_1_0, if_neg hs_1_1, if_neg hs_1_2, if_neg hs_1_3, if_pos hs_1_4]) hQ)
  by_cases hs_1_5 : w = 5
  · refine x_tcase hs_1_5 (tgt := 76) (off := 75) dX6_told_1 (by decide) (by decide) (by decide) (by decide) ?_
    refine x_aload_n dX6_told_76 rfl ?_
    refine x_get 2 dX6_told_77 hM.1 rfl (by decide) (by decide +kernel) rfl ?_
    refine x_iload_n dX6_told_80 rfl ?_
    refine x_iconst (v := 4) dX6_told_81 (by decide) ?_
    refine x_isub dX6_told_82 ?_
    refine x_iald dX6_told_83 (hM.r 2 (by decide) (by decide)) (tl_in (k := 4) (Or.inr hs_1_5) (by decide)) ?_
    exact x_iret dX6_told_84 rfl (xri (by unfold FX6_told; rw [if_neg hs_1_0, if_neg hs_1_1, if_neg hs_1_2, if_neg hs_1_3, if_neg hs_1_4, if_pos hs_1_5]) hQ)
  by_cases hs_1_6 : w = 6
  · refine x_tcase hs_1_6 (tgt := 85) (off := 84) dX6_told_1 (by decide) (by decide) (by decide) (by decide) ?_
    refine x_aload_n dX6_told_85 rfl ?_
    refine x_get 3 dX6_told_86 hM.1 rfl (by decide) (by decide +kernel) rfl ?_
    refine x_iload_n dX6_told_89 rfl ?_
    refine x_bipush (v := 6) dX6_told_90 (by decide) ?_
    refine x_isub dX6_told_92 ?_
    refine x_iald dX6_told_93 (hM.r 3 (by decide) (by decide)) (tl_in (k := 6) (Or.inl hs_1_6) (by decide)) ?_
    exact x_iret dX6_told_94 rfl (xri (by unfold FX6_told; rw [if_neg hs_1_0, if_neg hs_1_1, if_neg hs_1_2, if_neg hs_1_3, if_neg hs_1_4, if_neg hs_1_5, if_pos hs_1_6]) hQ)
  by_cases hs_1_7 : w = 7
  · refine x_tcase hs_1_7 (tgt := 85) (off := 84) dX6_told_1 (by decide) (by decide) (by decide) (by decide) ?_
    refine x_aload_n dX6_told_85 rfl ?_
    refine x_get 3 dX6_told_86 hM.1 rfl (by decide) (by decide +kernel) rfl ?_
    refine x_iload_n dX6_told_89 rfl ?_
    refine x_bipush (v := 6) dX6_told_90 (by decide) ?_
    refine x_isub dX6_told_92 ?_
    refine x_iald dX6_told_93 (hM.r 3 (by decide) (by decide)) (tl_in (k := 6) (Or.inr hs_1_7) (by decide)) ?_
    exact x_iret dX6_told_94 rfl (xri (by unfold FX6_told; rw [if_neg hs_1_0, if_neg hs_1_1, if_neg hs_1_2, if_neg hs_1_3, if_neg hs_1_4, if_neg hs_1_5, if_neg hs_1_6, if_pos hs_1_7]) hQ)
  by_cases hs_1_8 : w = 8
  · refine x_tcase hs_1_8 (tgt := 95) (off := 94) dX6_told_1 (by decide) (by decide) (by decide) (by decide) ?_
    refine x_aload_n dX6_told_95 rfl ?_
    refine x_get 4 dX6_told_96 hM.1 rfl (by decide) (by decide +kernel) rfl ?_
    refine x_iload_n dX6_told_99 rfl ?_
    refine x_bipush (v := 8) dX6_told_100 (by decide) ?_
    refine x_isub dX6_told_102 ?_
    refine x_iald dX6_told_103 (hM.r 4 (by decide) (by decide)) (tl_in (k := 8) (Or.inl hs_1_8) (by decide)) ?_
    exact x_iret dX6_told_104 rfl (xri (by unfold FX6_told; rw [if_neg hs_1_0, if_neg hs_1_1, if_neg hs_1_2, if_neg hs_1_3, if_neg hs_1_4, if_neg hs_1_5, if_neg hs_1_6, if_neg hs_1_7, if_pos hs_1_8]) hQ)
  by_cases hs_1_9 : w = 9
  · refine x_tcase hs_1_9 (tgt := 95) (off := 94) dX6_told_1 (by decide) (by decide) (by decide) (by decide) ?_
    refine x_aload_n dX6_told_95 rfl ?_
    refine x_get 4 dX6_told_96 hM.1 rfl (by decide) (by decide +kernel) rfl ?_
    refine x_iload_n dX6_told_99 rfl ?_
    refine x_bipush (v := 8) dX6_told_100 (by decide) ?_
    refine x_isub dX6_told_102 ?_
    refine x_iald dX6_told_103 (hM.r 4 (by decide) (by decide)) (tl_in (k := 8) (Or.inr hs_1_9) (by decide)) ?_
    exact x_iret dX6_told_104 rfl (xri (by unfold FX6_told; rw [if_neg hs_1_0, if_neg hs_1_1, if_neg hs_1_2, if_neg hs_1_3, if_neg hs_1_4, if_neg hs_1_5, if_neg hs_1_6, if_neg hs_1_7, if_neg hs_1_8, if_pos hs_1_9]) hQ)
  have z_1_0 : Int32.toInt (w) ≠ 0 := fun q => hs_1_0 (Int32.toInt_inj.mp (by rw [q]; rfl))
  have z_1_1 : Int32.toInt (w) ≠ 1 := fun q => hs_1_1 (Int32.toInt_inj.mp (by rw [q]; rfl))
  have z_1_2 : Int32.toInt (w) ≠ 2 := fun q => hs_1_2 (Int32.toInt_inj.mp (by rw [q]; rfl))
  have z_1_3 : Int32.toInt (w) ≠ 3 := fun q => hs_1_3 (Int32.toInt_inj.mp (by rw [q]; rfl))
  have z_1_4 : Int32.toInt (w) ≠ 4 := fun q => hs_1_4 (Int32.toInt_inj.mp (by rw [q]; rfl))
  have z_1_5 : Int32.toInt (w) ≠ 5 := fun q => hs_1_5 (Int32.toInt_inj.mp (by rw [q]; rfl))
  have z_1_6 : Int32.toInt (w) ≠ 6 := fun q => hs_1_6 (Int32.toInt_inj.mp (by rw [q]; rfl))
  have z_1_7 : Int32.toInt (w) ≠ 7 := fun q => hs_1_7 (Int32.toInt_inj.mp (by rw [q]; rfl))
  have z_1_8 : Int32.toInt (w) ≠ 8 := fun q => hs_1_8 (Int32.toInt_inj.mp (by rw [q]; rfl))
  have z_1_9 : Int32.toInt (w) ≠ 9 := fun q => hs_1_9 (Int32.toInt_inj.mp (by rw [q]; rfl))
  refine x_tout (tgt := 105) dX6_told_1 (by omega) (by decide) ?_
  refine x_ldc (v := (-2000000000)) dX6_told_105 (by decide +kernel) ?_
  exact x_iret dX6_told_107 rfl (xri (by unfold FX6_told; rw [if_neg hs_1_0, if_neg hs_1_1, if_neg hs_1_2, if_neg hs_1_3, if_neg hs_1_4, if_neg hs_1_5, if_neg hs_1_6, if_neg hs_1_7, if_neg hs_1_8, if_neg hs_1_9]) hQ)
theorem mlab_in {v n : Int32} (h20 : n ≤ 20) (h0 : 0 ≤ n) (h : ¬ FX6_in v 0 (n - 1) = 0) : vp_in v 20 := by
  rw [Int32.le_iff_toInt_le] at h20 h0
  have e0 : (0 : Int32).toInt = 0 := rfl
  have e20 : (20 : Int32).toInt = 20 := rfl
  have e1 : (1 : Int32).toInt = 1 := rfl
  refine in_vp h ?_
  rw [Int32.toInt_sub, e1]
  have : (n.toInt - 1).bmod (2 ^ 32) = n.toInt - 1 := by
    rw [Int.bmod_def]; omega
  omega
def FX6_labelled (I : xMi) (V : Nat → Nat → Int32) (lb : Int32) (w : Int32) : Int32 := (if (FX6_in lb (0 : Int32) (I.2.2.2.1 - (1 : Int32))) = 0 then (-1 : Int32) else (if w = 0 then ((V 17) (Int32.toNatClampNeg lb)) else (if w = 1 then ((V 18) (Int32.toNatClampNeg lb)) else (if w = 2 then ((V 19) (Int32.toNatClampNeg lb)) else (if w = 3 then ((V 20) (Int32.toNatClampNeg lb)) else (if w = 4 then ((V 21) (Int32.toNatClampNeg lb)) else (-1 : Int32)))))))
set_option maxHeartbeats 4000000 in
set_option maxRecDepth 100000 in
theorem kX6_labelled {G : xG} {l : Launch} {d : Nat} {h : xH} {Q : Option Value → xH → Prop} {A : Nat → Nat} {I : xMi} {V : Nat → Nat → Int32} {lb : Int32} {w : Int32} (hM : xMod G A I V h) (hl20 : I.2.2.2.1 ≤ 20) (hl0 : 0 ≤ I.2.2.2.1)  (hQ : Q (some (.int (FX6_labelled I V lb w))) h) : xV G l mX6_labelled (d + 1) 0 0 0 0 0 [.ref (A 0), .int lb, .int w] [] h Q := by
  refine x_iload_n dX6_labelled_0 rfl ?_
  refine x_iconst (v := 0) dX6_labelled_1 (by decide) ?_
  refine x_aload_n dX6_labelled_2 rfl ?_
  refine x_get 16 dX6_labelled_3 hM.1 rfl (by decide) (by decide +kernel) rfl ?_
  refine x_iconst (v := 1) dX6_labelled_6 (by decide) ?_
  refine x_isub dX6_labelled_7 ?_
  refine x_callS (M' := mX6_in) (mc' := 0) (ms' := 0) (As := [.int lb, .int (0 : Int32), .int (I.2.2.2.1 - (1 : Int32))]) dX6_labelled_8 gX6_labelled_X6_in okX6_in rfl rfl (Nat.le_of_ble_eq_true rfl) (Nat.le_of_ble_eq_true rfl) (Nat.le_refl _) (Nat.le_refl _) (Nat.le_refl _) ?_
  refine kX6_in  ?_
  show xV _ _ _ _ _ _ _ _ _ _ _ _ _
  refine x_if_ne (tgt := 16) dX6_labelled_11 (by decide) (fun hc_11 => ?_) (fun hc_11 => ?_)
  · refine x_iload_n dX6_labelled_16 rfl ?_
    by_cases hs_17_0 : w = 0
    · refine x_tcase hs_17_0 (tgt := 52) (off := 35) dX6_labelled_17 (by decide) (by decide) (by decide) (by decide) ?_
      refine x_aload_n dX6_labelled_52 rfl ?_
      refine x_get 17 dX6_labelled_53 hM.1 rfl (by decide) (by decide +kernel) rfl ?_
      refine x_iload_n dX6_labelled_56 rfl ?_
      refine x_iald dX6_labelled_57 (hM.r 17 (by decide) (by decide)) (mlab_in hl20 hl0 hc_11) ?_
      exact x_iret dX6_labelled_58 rfl (xri (by unfold FX6_labelled; rw [if_neg hc_11, if_pos hs_17_0]) hQ)
    by_cases hs_17_1 : w = 1
    · refine x_tcase hs_17_1 (tgt := 59) (off := 42) dX6_labelled_17 (by decide) (by decide) (by decide) (by decide) ?_
      refine x_aload_n dX6_labelled_59 rfl ?_
      refine x_get 18 dX6_labelled_60 hM.1 rfl (by decide) (by decide +kernel) rfl ?_
      refine x_iload_n dX6_labelled_63 rfl ?_
      refine x_iald dX6_labelled_64 (hM.r 18 (by decide) (by decide)) (mlab_in hl20 hl0 hc_11) ?_
      exact x_iret dX6_labelled_65 rfl (xri (by unfold FX6_labelled; rw [if_neg hc_11, if_neg hs_17_0, if_pos hs_17_1]) hQ)
    by_cases hs_17_2 : w = 2
    · refine x_tcase hs_17_2 (tgt := 66) (off := 49) dX6_labelled_17 (by decide) (by decide) (by decide) (by decide) ?_
      refine x_aload_n dX6_labelled_66 rfl ?_
      refine x_get 19 dX6_labelled_67 hM.1 rfl (by decide) (by decide +kernel) rfl ?_
      refine x_iload_n dX6_labelled_70 rfl ?_
      refine x_iald dX6_labelled_71 (hM.r 19 (by decide) (by decide)) (mlab_in hl20 hl0 hc_11) ?_
      exact x_iret dX6_labelled_72 rfl (xri (by unfold FX6_labelled; rw [if_neg hc_11, if_neg hs_17_0, if_neg hs_17_1, if_pos hs_17_2]) hQ)
    by_cases hs_17_3 : w = 3
    · refine x_tcase hs_17_3 (tgt := 73) (off := 56) dX6_labelled_17 (by decide) (by decide) (by decide) (by decide) ?_
      refine x_aload_n dX6_labelled_73 rfl ?_
      refine x_get 20 dX6_labelled_74 hM.1 rfl (by decide) (by decide +kernel) rfl ?_
      refine x_iload_n dX6_labelled_77 rfl ?_
      refine x_iald dX6_labelled_78 (hM.r 20 (by decide) (by decide)) (mlab_in hl20 hl0 hc_11) ?_
      exact x_iret dX6_labelled_79 rfl (xri (by unfold FX6_labelled; rw [if_neg hc_11, if_neg hs_17_0, if_neg hs_17_1, if_neg hs_17_2, if_pos hs_17_3]) hQ)
    by_cases hs_17_4 : w = 4
    · refine x_tcase hs_17_4 (tgt := 80) (off := 63) dX6_labelled_17 (by decide) (by decide) (by decide) (by decide) ?_
      refine x_aload_n dX6_labelled_80 rfl ?_
      refine x_get 21 dX6_labelled_81 hM.1 rfl (by decide) (by decide +kernel) rfl ?_
      refine x_iload_n dX6_labelled_84 rfl ?_
      refine x_iald dX6_labelled_85 (hM.r 21 (by decide) (by decide)) (mlab_in hl20 hl0 hc_11) ?_
      exact x_iret dX6_labelled_86 rfl (xri (by unfold FX6_labelled; rw [if_neg hc_11, if_neg hs_17_0, if_neg hs_17_1, if_neg hs_17_2, if_neg hs_17_3, if_pos hs_17_4]) hQ)
    have z_17_0 : Int32.toInt (w) ≠ 0 := fun q => hs_17_0 (Int32.toInt_inj.mp (by rw [q]; rfl))
    have z_17_1 : Int32.toInt (w) ≠ 1 := fun q => hs_17_1 (Int32.toInt_inj.mp (by rw [q]; rfl))
    have z_17_2 : Int32.toInt (w) ≠ 2 := fun q => hs_17_2 (Int32.toInt_inj.mp (by rw [q]; rfl))
    have z_17_3 : Int32.toInt (w) ≠ 3 := fun q => hs_17_3 (Int32.toInt_inj.mp (by rw [q]; rfl))
    have z_17_4 : Int32.toInt (w) ≠ 4 := fun q => hs_17_4 (Int32.toInt_inj.mp (by rw [q]; rfl))
    refine x_tout (tgt := 87) dX6_labelled_17 (by omega) (by decide) ?_
    refine x_iconst (v := (-1)) dX6_labelled_87 (by decide) ?_
    exact x_iret dX6_labelled_88 rfl (xri (by unfold FX6_labelled; rw [if_neg hc_11, if_neg hs_17_0, if_neg hs_17_1, if_neg hs_17_2, if_neg hs_17_3, if_neg hs_17_4]) hQ)
  · refine x_iconst (v := (-1)) dX6_labelled_14 (by decide) ?_
    exact x_iret dX6_labelled_15 rfl (xri (by unfold FX6_labelled; rw [if_pos hc_11]) hQ)
