set_option maxHeartbeats 4000000 in
set_option maxRecDepth 100000 in
theorem kX6_ten1 {G : xG} {l : Launch} {d : Nat} {h : xH} {Q : Option Value → xH → Prop} {A : Nat → Nat} {I : xMi} {V : Nat → Nat → Int32} {ax m t t2 t25 t5 t10 : Int32} (hM : xMod G A I V h) (hax : vp_in ax 2) (e_t2 : 2 * t = t2) (e_t25 : (5 * t) / 2 = t25) (e_t5 : 5 * t = t5) (e_t10 : t * 10 = t10) (z_t : ¬ t = 0) (z_t2 : ¬ t2 = 0) (z_t25 : ¬ t25 = 0) (z_t5 : ¬ t5 = 0) (hg : t ≤ 1) (k_t : FX6_ticks I V ax t ≤ m → Q (some (.int t)) h) (k_t2 : ¬ FX6_ticks I V ax t ≤ m → FX6_ticks I V ax t2 ≤ m → Q (some (.int t2)) h) (k_t5 : ¬ FX6_ticks I V ax t ≤ m → ¬ FX6_ticks I V ax t2 ≤ m → FX6_ticks I V ax t5 ≤ m → Q (some (.int t5)) h) (k_n : ¬ FX6_ticks I V ax t ≤ m → ¬ FX6_ticks I V ax t2 ≤ m → ¬ FX6_ticks I V ax t5 ≤ m → xV G l mX6_stepOf (d + 3) 0 0 0 0 2 [.ref (A 0), .int ax, .int m, .int t10, xU, xU] [] h Q) : xV G l mX6_stepOf (d + 3) 0 0 0 0 2 [.ref (A 0), .int ax, .int m, .int t, xU, xU] [] h Q := by
  refine x_iconst (v := 0) dX6_stepOf_2 (by decide) ?_
  refine x_istore dX6_stepOf_3 (by decide) rfl ?_
  refine x_iload dX6_stepOf_5 rfl ?_
  refine x_iconst (v := 4) dX6_stepOf_7 (by decide) ?_
  refine x_icmp_ge (tgt := 82) dX6_stepOf_8 (by decide) (fun z9 => absurd z9 (by decide)) (fun _ => ?_)
  refine x_iload dX6_stepOf_11 rfl ?_
  refine x_if_ne (tgt := 20) dX6_stepOf_13 (by decide) (fun z9 => absurd rfl z9) (fun _ => ?_)
  refine x_iload_n dX6_stepOf_16 rfl ?_
  refine x_goto (tgt := 49) dX6_stepOf_17 (by decide) ?_
  refine x_istore dX6_stepOf_49 (by decide) rfl ?_
  refine x_iload dX6_stepOf_51 rfl ?_
  refine x_iconst (v := 2) dX6_stepOf_53 (by decide) ?_
  refine x_icmp_ne (tgt := 62) dX6_stepOf_54 (by decide) (fun _ => ?_) (fun z9 => absurd z9 (by decide))
  refine x_aload_n dX6_stepOf_62 rfl ?_
  refine x_iload_n dX6_stepOf_63 rfl ?_
  refine x_iload dX6_stepOf_64 rfl ?_
  refine x_callV (M' := mX6_ticks) (mc' := 0) (ms' := 0) (As := [.int ax, .int t]) dX6_stepOf_66 gX6_stepOf_X6_ticks okX6_ticks rfl rfl hM.1 rfl (Nat.le_of_ble_eq_true rfl) (Nat.le_of_ble_eq_true rfl) (Nat.le_refl _) (Nat.le_refl _) (Nat.le_refl _) ?_
  refine kX6_ticks hM hax z_t ?_
  show xV _ _ _ _ _ _ _ _ _ _ _ _ _
  refine x_iload_n dX6_stepOf_69 rfl ?_
  refine x_icmp_gt (tgt := 76) dX6_stepOf_70 (by decide) (fun hc_70_0 => ?_) (fun hc_70_0 => ?_)
  · refine x_iinc (v := 1) dX6_stepOf_76 rfl (by decide) (by decide) rfl ?_
    refine x_goto (tgt := 5) dX6_stepOf_79 (by decide) ?_
    refine xV.sub (L' := [.ref (A 0), .int ax, .int m, .int t, .int (1 : Int32), xU]) ⟨Or.inr rfl, Or.inr rfl, Or.inr rfl, Or.inr rfl, Or.inr (rfl), Or.inl rfl, trivial⟩ ?_
    refine x_iload dX6_stepOf_5 rfl ?_
    refine x_iconst (v := 4) dX6_stepOf_7 (by decide) ?_
    refine x_icmp_ge (tgt := 82) dX6_stepOf_8 (by decide) (fun z9 => absurd z9 (by decide)) (fun _ => ?_)
    refine x_iload dX6_stepOf_11 rfl ?_
    refine x_if_ne (tgt := 20) dX6_stepOf_13 (by decide) (fun _ => ?_) (fun z9 => absurd z9 (by decide))
    refine x_iload dX6_stepOf_20 rfl ?_
    refine x_iconst (v := 1) dX6_stepOf_22 (by decide) ?_
    refine x_icmp_ne (tgt := 32) dX6_stepOf_23 (by decide) (fun z9 => absurd rfl z9) (fun _ => ?_)
    refine x_iconst (v := 2) dX6_stepOf_26 (by decide) ?_
    refine x_iload_n dX6_stepOf_27 rfl ?_
    refine x_imul dX6_stepOf_28 ?_
    refine x_goto (tgt := 49) dX6_stepOf_29 (by decide) ?_
    rw [e_t2]
    refine x_istore dX6_stepOf_49 (by decide) rfl ?_
    refine x_iload dX6_stepOf_51 rfl ?_
    refine x_iconst (v := 2) dX6_stepOf_53 (by decide) ?_
    refine x_icmp_ne (tgt := 62) dX6_stepOf_54 (by decide) (fun _ => ?_) (fun z9 => absurd z9 (by decide))
    refine x_aload_n dX6_stepOf_62 rfl ?_
    refine x_iload_n dX6_stepOf_63 rfl ?_
    refine x_iload dX6_stepOf_64 rfl ?_
    refine x_callV (M' := mX6_ticks) (mc' := 0) (ms' := 0) (As := [.int ax, .int t2]) dX6_stepOf_66 gX6_stepOf_X6_ticks okX6_ticks rfl rfl hM.1 rfl (Nat.le_of_ble_eq_true rfl) (Nat.le_of_ble_eq_true rfl) (Nat.le_refl _) (Nat.le_refl _) (Nat.le_refl _) ?_
    refine kX6_ticks hM hax z_t2 ?_
    show xV _ _ _ _ _ _ _ _ _ _ _ _ _
    refine x_iload_n dX6_stepOf_69 rfl ?_
    refine x_icmp_gt (tgt := 76) dX6_stepOf_70 (by decide) (fun hc_70_1 => ?_) (fun hc_70_1 => ?_)
    · refine x_iinc (v := 1) dX6_stepOf_76 rfl (by decide) (by decide) rfl ?_
      refine x_goto (tgt := 5) dX6_stepOf_79 (by decide) ?_
      refine xV.sub (L' := [.ref (A 0), .int ax, .int m, .int t, .int (2 : Int32), xU]) ⟨Or.inr rfl, Or.inr rfl, Or.inr rfl, Or.inr rfl, Or.inr (rfl), Or.inl rfl, trivial⟩ ?_
      refine x_iload dX6_stepOf_5 rfl ?_
      refine x_iconst (v := 4) dX6_stepOf_7 (by decide) ?_
      refine x_icmp_ge (tgt := 82) dX6_stepOf_8 (by decide) (fun z9 => absurd z9 (by decide)) (fun _ => ?_)
      refine x_iload dX6_stepOf_11 rfl ?_
      refine x_if_ne (tgt := 20) dX6_stepOf_13 (by decide) (fun _ => ?_) (fun z9 => absurd z9 (by decide))
      refine x_iload dX6_stepOf_20 rfl ?_
      refine x_iconst (v := 1) dX6_stepOf_22 (by decide) ?_
      refine x_icmp_ne (tgt := 32) dX6_stepOf_23 (by decide) (fun _ => ?_) (fun z9 => absurd z9 (by decide))
      refine x_iload dX6_stepOf_32 rfl ?_
      refine x_iconst (v := 2) dX6_stepOf_34 (by decide) ?_
      refine x_icmp_ne (tgt := 46) dX6_stepOf_35 (by decide) (fun z9 => absurd rfl z9) (fun _ => ?_)
      refine x_iconst (v := 5) dX6_stepOf_38 (by decide) ?_
      refine x_iload_n dX6_stepOf_39 rfl ?_
      refine x_imul dX6_stepOf_40 ?_
      refine x_iconst (v := 2) dX6_stepOf_41 (by decide) ?_
      refine x_idiv dX6_stepOf_42 (by decide) ?_
      refine x_goto (tgt := 49) dX6_stepOf_43 (by decide) ?_
      rw [e_t25]
      refine x_istore dX6_stepOf_49 (by decide) rfl ?_
      refine x_iload dX6_stepOf_51 rfl ?_
      refine x_iconst (v := 2) dX6_stepOf_53 (by decide) ?_
      refine x_icmp_ne (tgt := 62) dX6_stepOf_54 (by decide) (fun z9 => absurd rfl z9) (fun _ => ?_)
      refine x_iload_n dX6_stepOf_57 rfl ?_
      refine x_iconst (v := 1) dX6_stepOf_58 (by decide) ?_
      refine x_icmp_le (tgt := 76) dX6_stepOf_59 (by decide) (fun _ => ?_) (fun z9 => absurd hg z9)
      refine x_iinc (v := 1) dX6_stepOf_76 rfl (by decide) (by decide) rfl ?_
      refine x_goto (tgt := 5) dX6_stepOf_79 (by decide) ?_
      refine xV.sub (L' := [.ref (A 0), .int ax, .int m, .int t, .int (3 : Int32), xU]) ⟨Or.inr rfl, Or.inr rfl, Or.inr rfl, Or.inr rfl, Or.inr (rfl), Or.inl rfl, trivial⟩ ?_
      refine x_iload dX6_stepOf_5 rfl ?_
      refine x_iconst (v := 4) dX6_stepOf_7 (by decide) ?_
      refine x_icmp_ge (tgt := 82) dX6_stepOf_8 (by decide) (fun z9 => absurd z9 (by decide)) (fun _ => ?_)
      refine x_iload dX6_stepOf_11 rfl ?_
      refine x_if_ne (tgt := 20) dX6_stepOf_13 (by decide) (fun _ => ?_) (fun z9 => absurd z9 (by decide))
      refine x_iload dX6_stepOf_20 rfl ?_
      refine x_iconst (v := 1) dX6_stepOf_22 (by decide) ?_
      refine x_icmp_ne (tgt := 32) dX6_stepOf_23 (by decide) (fun _ => ?_) (fun z9 => absurd z9 (by decide))
      refine x_iload dX6_stepOf_32 rfl ?_
      refine x_iconst (v := 2) dX6_stepOf_34 (by decide) ?_
      refine x_icmp_ne (tgt := 46) dX6_stepOf_35 (by decide) (fun _ => ?_) (fun z9 => absurd z9 (by decide))
      refine x_iconst (v := 5) dX6_stepOf_46 (by decide) ?_
      refine x_iload_n dX6_stepOf_47 rfl ?_
      refine x_imul dX6_stepOf_48 ?_
      rw [e_t5]
      refine x_istore dX6_stepOf_49 (by decide) rfl ?_
      refine x_iload dX6_stepOf_51 rfl ?_
      refine x_iconst (v := 2) dX6_stepOf_53 (by decide) ?_
      refine x_icmp_ne (tgt := 62) dX6_stepOf_54 (by decide) (fun _ => ?_) (fun z9 => absurd z9 (by decide))
      refine x_aload_n dX6_stepOf_62 rfl ?_
      refine x_iload_n dX6_stepOf_63 rfl ?_
      refine x_iload dX6_stepOf_64 rfl ?_
      refine x_callV (M' := mX6_ticks) (mc' := 0) (ms' := 0) (As := [.int ax, .int t5]) dX6_stepOf_66 gX6_stepOf_X6_ticks okX6_ticks rfl rfl hM.1 rfl (Nat.le_of_ble_eq_true rfl) (Nat.le_of_ble_eq_true rfl) (Nat.le_refl _) (Nat.le_refl _) (Nat.le_refl _) ?_
      refine kX6_ticks hM hax z_t5 ?_
      show xV _ _ _ _ _ _ _ _ _ _ _ _ _
      refine x_iload_n dX6_stepOf_69 rfl ?_
      refine x_icmp_gt (tgt := 76) dX6_stepOf_70 (by decide) (fun hc_70_3 => ?_) (fun hc_70_3 => ?_)
      · refine x_iinc (v := 1) dX6_stepOf_76 rfl (by decide) (by decide) rfl ?_
        refine x_goto (tgt := 5) dX6_stepOf_79 (by decide) ?_
        refine xV.sub (L' := [.ref (A 0), .int ax, .int m, .int t, .int (4 : Int32), xU]) ⟨Or.inr rfl, Or.inr rfl, Or.inr rfl, Or.inr rfl, Or.inr (rfl), Or.inl rfl, trivial⟩ ?_
        refine x_iload dX6_stepOf_5 rfl ?_
        refine x_iconst (v := 4) dX6_stepOf_7 (by decide) ?_
        refine x_icmp_ge (tgt := 82) dX6_stepOf_8 (by decide) (fun _ => ?_) (fun z9 => absurd (by decide) z9)
        refine x_iload_n dX6_stepOf_82 rfl ?_
        refine x_bipush (v := 10) dX6_stepOf_83 (by decide) ?_
        refine x_imul dX6_stepOf_85 ?_
        rw [e_t10]
        refine x_istore_n dX6_stepOf_86 (by decide) rfl ?_
        refine x_goto (tgt := 2) dX6_stepOf_87 (by decide) ?_
        refine xV.sub (L' := [.ref (A 0), .int ax, .int m, .int t10, xU, xU]) ⟨Or.inr rfl, Or.inr rfl, Or.inr rfl, Or.inr rfl, Or.inl rfl, Or.inl rfl, trivial⟩ (k_n (Int32.not_le.mpr hc_70_0) (Int32.not_le.mpr hc_70_1) (Int32.not_le.mpr hc_70_3))
      · refine x_iload dX6_stepOf_73 rfl ?_
        exact x_iret dX6_stepOf_75 rfl (k_t5 (Int32.not_le.mpr hc_70_0) (Int32.not_le.mpr hc_70_1) (Int32.not_lt.mp hc_70_3))
    · refine x_iload dX6_stepOf_73 rfl ?_
      exact x_iret dX6_stepOf_75 rfl (k_t2 (Int32.not_le.mpr hc_70_0) (Int32.not_lt.mp hc_70_1))
  · refine x_iload dX6_stepOf_73 rfl ?_
    exact x_iret dX6_stepOf_75 rfl (k_t  (Int32.not_lt.mp hc_70_0))
set_option maxHeartbeats 4000000 in
set_option maxRecDepth 100000 in
theorem kX6_ten {G : xG} {l : Launch} {d : Nat} {h : xH} {Q : Option Value → xH → Prop} {A : Nat → Nat} {I : xMi} {V : Nat → Nat → Int32} {ax m t t2 t25 t5 t10 : Int32} (hM : xMod G A I V h) (hax : vp_in ax 2) (e_t2 : 2 * t = t2) (e_t25 : (5 * t) / 2 = t25) (e_t5 : 5 * t = t5) (e_t10 : t * 10 = t10) (z_t : ¬ t = 0) (z_t2 : ¬ t2 = 0) (z_t25 : ¬ t25 = 0) (z_t5 : ¬ t5 = 0) (hg : ¬ t ≤ 1) (k_t : FX6_ticks I V ax t ≤ m → Q (some (.int t)) h) (k_t2 : ¬ FX6_ticks I V ax t ≤ m → FX6_ticks I V ax t2 ≤ m → Q (some (.int t2)) h) (k_t25 : ¬ FX6_ticks I V ax t ≤ m → ¬ FX6_ticks I V ax t2 ≤ m → FX6_ticks I V ax t25 ≤ m → Q (some (.int t25)) h) (k_t5 : ¬ FX6_ticks I V ax t ≤ m → ¬ FX6_ticks I V ax t2 ≤ m → ¬ FX6_ticks I V ax t25 ≤ m → FX6_ticks I V ax t5 ≤ m → Q (some (.int t5)) h) (k_n : ¬ FX6_ticks I V ax t ≤ m → ¬ FX6_ticks I V ax t2 ≤ m → ¬ FX6_ticks I V ax t25 ≤ m → ¬ FX6_ticks I V ax t5 ≤ m → xV G l mX6_stepOf (d + 3) 0 0 0 0 2 [.ref (A 0), .int ax, .int m, .int t10, xU, xU] [] h Q) : xV G l mX6_stepOf (d + 3) 0 0 0 0 2 [.ref (A 0), .int ax, .int m, .int t, xU, xU] [] h Q := by
  refine x_iconst (v := 0) dX6_stepOf_2 (by decide) ?_
  refine x_istore dX6_stepOf_3 (by decide) rfl ?_
  refine x_iload dX6_stepOf_5 rfl ?_
  refine x_iconst (v := 4) dX6_stepOf_7 (by decide) ?_
  refine x_icmp_ge (tgt := 82) dX6_stepOf_8 (by decide) (fun z9 => absurd z9 (by decide)) (fun _ => ?_)
  refine x_iload dX6_stepOf_11 rfl ?_
  refine x_if_ne (tgt := 20) dX6_stepOf_13 (by decide) (fun z9 => absurd rfl z9) (fun _ => ?_)
  refine x_iload_n dX6_stepOf_16 rfl ?_
  refine x_goto (tgt := 49) dX6_stepOf_17 (by decide) ?_
  refine x_istore dX6_stepOf_49 (by decide) rfl ?_
  refine x_iload dX6_stepOf_51 rfl ?_
  refine x_iconst (v := 2) dX6_stepOf_53 (by decide) ?_
  refine x_icmp_ne (tgt := 62) dX6_stepOf_54 (by decide) (fun _ => ?_) (fun z9 => absurd z9 (by decide))
  refine x_aload_n dX6_stepOf_62 rfl ?_
  refine x_iload_n dX6_stepOf_63 rfl ?_
  refine x_iload dX6_stepOf_64 rfl ?_
  refine x_callV (M' := mX6_ticks) (mc' := 0) (ms' := 0) (As := [.int ax, .int t]) dX6_stepOf_66 gX6_stepOf_X6_ticks okX6_ticks rfl rfl hM.1 rfl (Nat.le_of_ble_eq_true rfl) (Nat.le_of_ble_eq_true rfl) (Nat.le_refl _) (Nat.le_refl _) (Nat.le_refl _) ?_
  refine kX6_ticks hM hax z_t ?_
  show xV _ _ _ _ _ _ _ _ _ _ _ _ _
  refine x_iload_n dX6_stepOf_69 rfl ?_
  refine x_icmp_gt (tgt := 76) dX6_stepOf_70 (by decide) (fun hc_70_0 => ?_) (fun hc_70_0 => ?_)
  · refine x_iinc (v := 1) dX6_stepOf_76 rfl (by decide) (by decide) rfl ?_
    refine x_goto (tgt := 5) dX6_stepOf_79 (by decide) ?_
    refine xV.sub (L' := [.ref (A 0), .int ax, .int m, .int t, .int (1 : Int32), xU]) ⟨Or.inr rfl, Or.inr rfl, Or.inr rfl, Or.inr rfl, Or.inr (rfl), Or.inl rfl, trivial⟩ ?_
    refine x_iload dX6_stepOf_5 rfl ?_
    refine x_iconst (v := 4) dX6_stepOf_7 (by decide) ?_
    refine x_icmp_ge (tgt := 82) dX6_stepOf_8 (by decide) (fun z9 => absurd z9 (by decide)) (fun _ => ?_)
    refine x_iload dX6_stepOf_11 rfl ?_
    refine x_if_ne (tgt := 20) dX6_stepOf_13 (by decide) (fun _ => ?_) (fun z9 => absurd z9 (by decide))
    refine x_iload dX6_stepOf_20 rfl ?_
    refine x_iconst (v := 1) dX6_stepOf_22 (by decide) ?_
    refine x_icmp_ne (tgt := 32) dX6_stepOf_23 (by decide) (fun z9 => absurd rfl z9) (fun _ => ?_)
    refine x_iconst (v := 2) dX6_stepOf_26 (by decide) ?_
    refine x_iload_n dX6_stepOf_27 rfl ?_
    refine x_imul dX6_stepOf_28 ?_
    refine x_goto (tgt := 49) dX6_stepOf_29 (by decide) ?_
    rw [e_t2]
    refine x_istore dX6_stepOf_49 (by decide) rfl ?_
    refine x_iload dX6_stepOf_51 rfl ?_
    refine x_iconst (v := 2) dX6_stepOf_53 (by decide) ?_
    refine x_icmp_ne (tgt := 62) dX6_stepOf_54 (by decide) (fun _ => ?_) (fun z9 => absurd z9 (by decide))
    refine x_aload_n dX6_stepOf_62 rfl ?_
    refine x_iload_n dX6_stepOf_63 rfl ?_
    refine x_iload dX6_stepOf_64 rfl ?_
    refine x_callV (M' := mX6_ticks) (mc' := 0) (ms' := 0) (As := [.int ax, .int t2]) dX6_stepOf_66 gX6_stepOf_X6_ticks okX6_ticks rfl rfl hM.1 rfl (Nat.le_of_ble_eq_true rfl) (Nat.le_of_ble_eq_true rfl) (Nat.le_refl _) (Nat.le_refl _) (Nat.le_refl _) ?_
    refine kX6_ticks hM hax z_t2 ?_
    show xV _ _ _ _ _ _ _ _ _ _ _ _ _
    refine x_iload_n dX6_stepOf_69 rfl ?_
    refine x_icmp_gt (tgt := 76) dX6_stepOf_70 (by decide) (fun hc_70_1 => ?_) (fun hc_70_1 => ?_)
    · refine x_iinc (v := 1) dX6_stepOf_76 rfl (by decide) (by decide) rfl ?_
      refine x_goto (tgt := 5) dX6_stepOf_79 (by decide) ?_
      refine xV.sub (L' := [.ref (A 0), .int ax, .int m, .int t, .int (2 : Int32), xU]) ⟨Or.inr rfl, Or.inr rfl, Or.inr rfl, Or.inr rfl, Or.inr (rfl), Or.inl rfl, trivial⟩ ?_
      refine x_iload dX6_stepOf_5 rfl ?_
      refine x_iconst (v := 4) dX6_stepOf_7 (by decide) ?_
      refine x_icmp_ge (tgt := 82) dX6_stepOf_8 (by decide) (fun z9 => absurd z9 (by decide)) (fun _ => ?_)
      refine x_iload dX6_stepOf_11 rfl ?_
      refine x_if_ne (tgt := 20) dX6_stepOf_13 (by decide) (fun _ => ?_) (fun z9 => absurd z9 (by decide))
      refine x_iload dX6_stepOf_20 rfl ?_
      refine x_iconst (v := 1) dX6_stepOf_22 (by decide) ?_
      refine x_icmp_ne (tgt := 32) dX6_stepOf_23 (by decide) (fun _ => ?_) (fun z9 => absurd z9 (by decide))
      refine x_iload dX6_stepOf_32 rfl ?_
      refine x_iconst (v := 2) dX6_stepOf_34 (by decide) ?_
      refine x_icmp_ne (tgt := 46) dX6_stepOf_35 (by decide) (fun z9 => absurd rfl z9) (fun _ => ?_)
      refine x_iconst (v := 5) dX6_stepOf_38 (by decide) ?_
      refine x_iload_n dX6_stepOf_39 rfl ?_
      refine x_imul dX6_stepOf_40 ?_
      refine x_iconst (v := 2) dX6_stepOf_41 (by decide) ?_
      refine x_idiv dX6_stepOf_42 (by decide) ?_
      refine x_goto (tgt := 49) dX6_stepOf_43 (by decide) ?_
      rw [e_t25]
      refine x_istore dX6_stepOf_49 (by decide) rfl ?_
      refine x_iload dX6_stepOf_51 rfl ?_
      refine x_iconst (v := 2) dX6_stepOf_53 (by decide) ?_
      refine x_icmp_ne (tgt := 62) dX6_stepOf_54 (by decide) (fun z9 => absurd rfl z9) (fun _ => ?_)
      refine x_iload_n dX6_stepOf_57 rfl ?_
      refine x_iconst (v := 1) dX6_stepOf_58 (by decide) ?_
      refine x_icmp_le (tgt := 76) dX6_stepOf_59 (by decide) (fun z9 => absurd z9 hg) (fun _ => ?_)
      refine x_aload_n dX6_stepOf_62 rfl ?_
      refine x_iload_n dX6_stepOf_63 rfl ?_
      refine x_iload dX6_stepOf_64 rfl ?_
      refine x_callV (M' := mX6_ticks) (mc' := 0) (ms' := 0) (As := [.int ax, .int t25]) dX6_stepOf_66 gX6_stepOf_X6_ticks okX6_ticks rfl rfl hM.1 rfl (Nat.le_of_ble_eq_true rfl) (Nat.le_of_ble_eq_true rfl) (Nat.le_refl _) (Nat.le_refl _) (Nat.le_refl _) ?_
      refine kX6_ticks hM hax z_t25 ?_
      show xV _ _ _ _ _ _ _ _ _ _ _ _ _
      refine x_iload_n dX6_stepOf_69 rfl ?_
      refine x_icmp_gt (tgt := 76) dX6_stepOf_70 (by decide) (fun hc_70_2 => ?_) (fun hc_70_2 => ?_)
      · refine x_iinc (v := 1) dX6_stepOf_76 rfl (by decide) (by decide) rfl ?_
        refine x_goto (tgt := 5) dX6_stepOf_79 (by decide) ?_
        refine xV.sub (L' := [.ref (A 0), .int ax, .int m, .int t, .int (3 : Int32), xU]) ⟨Or.inr rfl, Or.inr rfl, Or.inr rfl, Or.inr rfl, Or.inr (rfl), Or.inl rfl, trivial⟩ ?_
        refine x_iload dX6_stepOf_5 rfl ?_
        refine x_iconst (v := 4) dX6_stepOf_7 (by decide) ?_
        refine x_icmp_ge (tgt := 82) dX6_stepOf_8 (by decide) (fun z9 => absurd z9 (by decide)) (fun _ => ?_)
        refine x_iload dX6_stepOf_11 rfl ?_
        refine x_if_ne (tgt := 20) dX6_stepOf_13 (by decide) (fun _ => ?_) (fun z9 => absurd z9 (by decide))
        refine x_iload dX6_stepOf_20 rfl ?_
        refine x_iconst (v := 1) dX6_stepOf_22 (by decide) ?_
        refine x_icmp_ne (tgt := 32) dX6_stepOf_23 (by decide) (fun _ => ?_) (fun z9 => absurd z9 (by decide))
        refine x_iload dX6_stepOf_32 rfl ?_
        refine x_iconst (v := 2) dX6_stepOf_34 (by decide) ?_
        refine x_icmp_ne (tgt := 46) dX6_stepOf_35 (by decide) (fun _ => ?_) (fun z9 => absurd z9 (by decide))
        refine x_iconst (v := 5) dX6_stepOf_46 (by decide) ?_
        refine x_iload_n dX6_stepOf_47 rfl ?_
        refine x_imul dX6_stepOf_48 ?_
        rw [e_t5]
        refine x_istore dX6_stepOf_49 (by decide) rfl ?_
        refine x_iload dX6_stepOf_51 rfl ?_
        refine x_iconst (v := 2) dX6_stepOf_53 (by decide) ?_
        refine x_icmp_ne (tgt := 62) dX6_stepOf_54 (by decide) (fun _ => ?_) (fun z9 => absurd z9 (by decide))
        refine x_aload_n dX6_stepOf_62 rfl ?_
        refine x_iload_n dX6_stepOf_63 rfl ?_
        refine x_iload dX6_stepOf_64 rfl ?_
        refine x_callV (M' := mX6_ticks) (mc' := 0) (ms' := 0) (As := [.int ax, .int t5]) dX6_stepOf_66 gX6_stepOf_X6_ticks okX6_ticks rfl rfl hM.1 rfl (Nat.le_of_ble_eq_true rfl) (Nat.le_of_ble_eq_true rfl) (Nat.le_refl _) (Nat.le_refl _) (Nat.le_refl _) ?_
        refine kX6_ticks hM hax z_t5 ?_
        show xV _ _ _ _ _ _ _ _ _ _ _ _ _
        refine x_iload_n dX6_stepOf_69 rfl ?_
        refine x_icmp_gt (tgt := 76) dX6_stepOf_70 (by decide) (fun hc_70_3 => ?_) (fun hc_70_3 => ?_)
        · refine x_iinc (v := 1) dX6_stepOf_76 rfl (by decide) (by decide) rfl ?_
          refine x_goto (tgt := 5) dX6_stepOf_79 (by decide) ?_
          refine xV.sub (L' := [.ref (A 0), .int ax, .int m, .int t, .int (4 : Int32), xU]) ⟨Or.inr rfl, Or.inr rfl, Or.inr rfl, Or.inr rfl, Or.inr (rfl), Or.inl rfl, trivial⟩ ?_
          refine x_iload dX6_stepOf_5 rfl ?_
          refine x_iconst (v := 4) dX6_stepOf_7 (by decide) ?_
          refine x_icmp_ge (tgt := 82) dX6_stepOf_8 (by decide) (fun _ => ?_) (fun z9 => absurd (by decide) z9)
          refine x_iload_n dX6_stepOf_82 rfl ?_
          refine x_bipush (v := 10) dX6_stepOf_83 (by decide) ?_
          refine x_imul dX6_stepOf_85 ?_
          rw [e_t10]
          refine x_istore_n dX6_stepOf_86 (by decide) rfl ?_
          refine x_goto (tgt := 2) dX6_stepOf_87 (by decide) ?_
          refine xV.sub (L' := [.ref (A 0), .int ax, .int m, .int t10, xU, xU]) ⟨Or.inr rfl, Or.inr rfl, Or.inr rfl, Or.inr rfl, Or.inl rfl, Or.inl rfl, trivial⟩ (k_n (Int32.not_le.mpr hc_70_0) (Int32.not_le.mpr hc_70_1) (Int32.not_le.mpr hc_70_2) (Int32.not_le.mpr hc_70_3))
        · refine x_iload dX6_stepOf_73 rfl ?_
          exact x_iret dX6_stepOf_75 rfl (k_t5 (Int32.not_le.mpr hc_70_0) (Int32.not_le.mpr hc_70_1) (Int32.not_le.mpr hc_70_2) (Int32.not_lt.mp hc_70_3))
      · refine x_iload dX6_stepOf_73 rfl ?_
        exact x_iret dX6_stepOf_75 rfl (k_t25 (Int32.not_le.mpr hc_70_0) (Int32.not_le.mpr hc_70_1) (Int32.not_lt.mp hc_70_2))
    · refine x_iload dX6_stepOf_73 rfl ?_
      exact x_iret dX6_stepOf_75 rfl (k_t2 (Int32.not_le.mpr hc_70_0) (Int32.not_lt.mp hc_70_1))
  · refine x_iload dX6_stepOf_73 rfl ?_
    exact x_iret dX6_stepOf_75 rfl (k_t  (Int32.not_lt.mp hc_70_0))
def mfirst (g : Int32 → Int32) (m : Int32) : List Int32 → Int32
  | [] => 2000000
  | b :: bs => if g b ≤ m then b else mfirst g m bs
def FX6_stepOf (I : xMi) (V : Nat → Nat → Int32) (ax m : Int32) : Int32 := mfirst (FX6_ticks I V ax) m xTick
set_option maxHeartbeats 4000000 in
set_option maxRecDepth 100000 in
theorem kX6_stepOf {G : xG} {l : Launch} {d : Nat} {h : xH} {Q : Option Value → xH → Prop} {A : Nat → Nat} {I : xMi} {V : Nat → Nat → Int32} {ax m : Int32} (hM : xMod G A I V h) (hax : vp_in ax 2) (hst : FX6_ticks I V ax 2000000 ≤ m) (hQ : Q (some (.int (FX6_stepOf I V ax m))) h) : xV G l mX6_stepOf (d + 3) 0 0 0 0 0 [.ref (A 0), .int ax, .int m, xU, xU, xU] [] h Q := by
  unfold FX6_stepOf xTick at hQ
  refine x_iconst (v := 1) dX6_stepOf_0 (by decide) ?_
  refine x_istore_n dX6_stepOf_1 (by decide) rfl ?_
  refine kX6_ten1 (t := 1) (t2 := 2) (t25 := 2) (t5 := 5) (t10 := 10) hM hax (by decide) (by decide) (by decide) (by decide) (by decide) (by decide) (by decide) (by decide) (by decide) (fun p1 => by rw [mfirst, if_pos p1] at hQ; exact hQ) (fun n1 p2 => by rw [mfirst, if_neg n1, mfirst, if_pos p2] at hQ; exact hQ) (fun n1 n2 p5 => by rw [mfirst, if_neg n1, mfirst, if_neg n2, mfirst, if_pos p5] at hQ; exact hQ) (fun n1 n2 n5 => ?_)
  refine kX6_ten (t := 10) (t2 := 20) (t25 := 25) (t5 := 50) (t10 := 100) hM hax (by decide) (by decide) (by decide) (by decide) (by decide) (by decide) (by decide) (by decide) (by decide) (fun p10 => by rw [mfirst, if_neg n1, mfirst, if_neg n2, mfirst, if_neg n5, mfirst, if_pos p10] at hQ; exact hQ) (fun n10 p20 => by rw [mfirst, if_neg n1, mfirst, if_neg n2, mfirst, if_neg n5, mfirst, if_neg n10, mfirst, if_pos p20] at hQ; exact hQ) (fun n10 n20 p25 => by rw [mfirst, if_neg n1, mfirst, if_neg n2, mfirst, if_neg n5, mfirst, if_neg n10, mfirst, if_neg n20, mfirst, if_pos p25] at hQ; exact hQ) (fun n10 n20 n25 p50 => by rw [mfirst, if_neg n1, mfirst, if_neg n2, mfirst, if_neg n5, mfirst, if_neg n10, mfirst, if_neg n20, mfirst, if_neg n25, mfirst, if_pos p50] at hQ; exact hQ) (fun n10 n20 n25 n50 => ?_)
  refine kX6_ten (t := 100) (t2 := 200) (t25 := 250) (t5 := 500) (t10 := 1000) hM hax (by decide) (by decide) (by decide) (by decide) (by decide) (by decide) (by decide) (by decide) (by decide) (fun p100 => by rw [mfirst, if_neg n1, mfirst, if_neg n2, mfirst, if_neg n5, mfirst, if_neg n10, mfirst, if_neg n20, mfirst, if_neg n25, mfirst, if_neg n50, mfirst, if_pos p100] at hQ; exact hQ) (fun n100 p200 => by rw [mfirst, if_neg n1, mfirst, if_neg n2, mfirst, if_neg n5, mfirst, if_neg n10, mfirst, if_neg n20, mfirst, if_neg n25, mfirst, if_neg n50, mfirst, if_neg n100, mfirst, if_pos p200] at hQ; exact hQ) (fun n100 n200 p250 => by rw [mfirst, if_neg n1, mfirst, if_neg n2, mfirst, if_neg n5, mfirst, if_neg n10, mfirst, if_neg n20, mfirst, if_neg n25, mfirst, if_neg n50, mfirst, if_neg n100, mfirst, if_neg n200, mfirst, if_pos p250] at hQ; exact hQ) (fun n100 n200 n250 p500 => by rw [mfirst, if_neg n1, mfirst, if_neg n2, mfirst, if_neg n5, mfirst, if_neg n10, mfirst, if_neg n20, mfirst, if_neg n25, mfirst, if_neg n50, mfirst, if_neg n100, mfirst, if_neg n200, mfirst, if_neg n250, mfirst, if_pos p500] at hQ; exact hQ) (fun n100 n200 n250 n500 => ?_)
  refine kX6_ten (t := 1000) (t2 := 2000) (t25 := 2500) (t5 := 5000) (t10 := 10000) hM hax (by decide) (by decide) (by decide) (by decide) (by decide) (by decide) (by decide) (by decide) (by decide) (fun p1000 => by rw [mfirst, if_neg n1, mfirst, if_neg n2, mfirst, if_neg n5, mfirst, if_neg n10, mfirst, if_neg n20, mfirst, if_neg n25, mfirst, if_neg n50, mfirst, if_neg n100, mfirst, if_neg n200, mfirst, if_neg n250, mfirst, if_neg n500, mfirst, if_pos p1000] at hQ; exact hQ) (fun n1000 p2000 => by rw [mfirst, if_neg n1, mfirst, if_neg n2, mfirst, if_neg n5, mfirst, if_neg n10, mfirst, if_neg n20, mfirst, if_neg n25, mfirst, if_neg n50, mfirst, if_neg n100, mfirst, if_neg n200, mfirst, if_neg n250, mfirst, if_neg n500, mfirst, if_neg n1000, mfirst, if_pos p2000] at hQ; exact hQ) (fun n1000 n2000 p2500 => by rw [mfirst, if_neg n1, mfirst, if_neg n2, mfirst, if_neg n5, mfirst, if_neg n10, mfirst, if_neg n20, mfirst, if_neg n25, mfirst, if_neg n50, mfirst, if_neg n100, mfirst, if_neg n200, mfirst, if_neg n250, mfirst, if_neg n500, mfirst, if_neg n1000, mfirst, if_neg n2000, mfirst, if_pos p2500] at hQ; exact hQ) (fun n1000 n2000 n2500 p5000 => by rw [mfirst, if_neg n1, mfirst, if_neg n2, mfirst, if_neg n5, mfirst, if_neg n10, mfirst, if_neg n20, mfirst, if_neg n25, mfirst, if_neg n50, mfirst, if_neg n100, mfirst, if_neg n200, mfirst, if_neg n250, mfirst, if_neg n500, mfirst, if_neg n1000, mfirst, if_neg n2000, mfirst, if_neg n2500, mfirst, if_pos p5000] at hQ; exact hQ) (fun n1000 n2000 n2500 n5000 => ?_)
  refine kX6_ten (t := 10000) (t2 := 20000) (t25 := 25000) (t5 := 50000) (t10 := 100000) hM hax (by decide) (by decide) (by decide) (by decide) (by decide) (by decide) (by decide) (by decide) (by decide) (fun p10000 => by rw [mfirst, if_neg n1, mfirst, if_neg n2, mfirst, if_neg n5, mfirst, if_neg n10, mfirst, if_neg n20, mfirst, if_neg n25, mfirst, if_neg n50, mfirst, if_neg n100, mfirst, if_neg n200, mfirst, if_neg n250, mfirst, if_neg n500, mfirst, if_neg n1000, mfirst, if_neg n2000, mfirst, if_neg n2500, mfirst, if_neg n5000, mfirst, if_pos p10000] at hQ; exact hQ) (fun n10000 p20000 => by rw [mfirst, if_neg n1, mfirst, if_neg n2, mfirst, if_neg n5, mfirst, if_neg n10, mfirst, if_neg n20, mfirst, if_neg n25, mfirst, if_neg n50, mfirst, if_neg n100, mfirst, if_neg n200, mfirst, if_neg n250, mfirst, if_neg n500, mfirst, if_neg n1000, mfirst, if_neg n2000, mfirst, if_neg n2500, mfirst, if_neg n5000, mfirst, if_neg n10000, mfirst, if_pos p20000] at hQ; exact hQ) (fun n10000 n20000 p25000 => by rw [mfirst, if_neg n1, mfirst, if_neg n2, mfirst, if_neg n5, mfirst, if_neg n10, mfirst, if_neg n20, mfirst, if_neg n25, mfirst, if_neg n50, mfirst, if_neg n100, mfirst, if_neg n200, mfirst, if_neg n250, mfirst, if_neg n500, mfirst, if_neg n1000, mfirst, if_neg n2000, mfirst, if_neg n2500, mfirst, if_neg n5000, mfirst, if_neg n10000, mfirst, if_neg n20000, mfirst, if_pos p25000] at hQ; exact hQ) (fun n10000 n20000 n25000 p50000 => by rw [mfirst, if_neg n1, mfirst, if_neg n2, mfirst, if_neg n5, mfirst, if_neg n10, mfirst, if_neg n20, mfirst, if_neg n25, mfirst, if_neg n50, mfirst, if_neg n100, mfirst, if_neg n200, mfirst, if_neg n250, mfirst, if_neg n500, mfirst, if_neg n1000, mfirst, if_neg n2000, mfirst, if_neg n2500, mfirst, if_neg n5000, mfirst, if_neg n10000, mfirst, if_neg n20000, mfirst, if_neg n25000, mfirst, if_pos p50000] at hQ; exact hQ) (fun n10000 n20000 n25000 n50000 => ?_)
  refine kX6_ten (t := 100000) (t2 := 200000) (t25 := 250000) (t5 := 500000) (t10 := 1000000) hM hax (by decide) (by decide) (by decide) (by decide) (by decide) (by decide) (by decide) (by decide) (by decide) (fun p100000 => by rw [mfirst, if_neg n1, mfirst, if_neg n2, mfirst, if_neg n5, mfirst, if_neg n10, mfirst, if_neg n20, mfirst, if_neg n25, mfirst, if_neg n50, mfirst, if_neg n100, mfirst, if_neg n200, mfirst, if_neg n250, mfirst, if_neg n500, mfirst, if_neg n1000, mfirst, if_neg n2000, mfirst, if_neg n2500, mfirst, if_neg n5000, mfirst, if_neg n10000, mfirst, if_neg n20000, mfirst, if_neg n25000, mfirst, if_neg n50000, mfirst, if_pos p100000] at hQ; exact hQ) (fun n100000 p200000 => by rw [mfirst, if_neg n1, mfirst, if_neg n2, mfirst, if_neg n5, mfirst, if_neg n10, mfirst, if_neg n20, mfirst, if_neg n25, mfirst, if_neg n50, mfirst, if_neg n100, mfirst, if_neg n200, mfirst, if_neg n250, mfirst, if_neg n500, mfirst, if_neg n1000, mfirst, if_neg n2000, mfirst, if_neg n2500, mfirst, if_neg n5000, mfirst, if_neg n10000, mfirst, if_neg n20000, mfirst, if_neg n25000, mfirst, if_neg n50000, mfirst, if_neg n100000, mfirst, if_pos p200000] at hQ; exact hQ) (fun n100000 n200000 p250000 => by rw [mfirst, if_neg n1, mfirst, if_neg n2, mfirst, if_neg n5, mfirst, if_neg n10, mfirst, if_neg n20, mfirst, if_neg n25, mfirst, if_neg n50, mfirst, if_neg n100, mfirst, if_neg n200, mfirst, if_neg n250, mfirst, if_neg n500, mfirst, if_neg n1000, mfirst, if_neg n2000, mfirst, if_neg n2500, mfirst, if_neg n5000, mfirst, if_neg n10000, mfirst, if_neg n20000, mfirst, if_neg n25000, mfirst, if_neg n50000, mfirst, if_neg n100000, mfirst, if_neg n200000, mfirst, if_pos p250000] at hQ; exact hQ) (fun n100000 n200000 n250000 p500000 => by rw [mfirst, if_neg n1, mfirst, if_neg n2, mfirst, if_neg n5, mfirst, if_neg n10, mfirst, if_neg n20, mfirst, if_neg n25, mfirst, if_neg n50, mfirst, if_neg n100, mfirst, if_neg n200, mfirst, if_neg n250, mfirst, if_neg n500, mfirst, if_neg n1000, mfirst, if_neg n2000, mfirst, if_neg n2500, mfirst, if_neg n5000, mfirst, if_neg n10000, mfirst, if_neg n20000, mfirst, if_neg n25000, mfirst, if_neg n50000, mfirst, if_neg n100000, mfirst, if_neg n200000, mfirst, if_neg n250000, mfirst, if_pos p500000] at hQ; exact hQ) (fun n100000 n200000 n250000 n500000 => ?_)
  exact kX6_ten (t := 1000000) (t2 := 2000000) (t25 := 2500000) (t5 := 5000000) (t10 := 10000000) hM hax (by decide) (by decide) (by decide) (by decide) (by decide) (by decide) (by decide) (by decide) (by decide) (fun p1000000 => by rw [mfirst, if_neg n1, mfirst, if_neg n2, mfirst, if_neg n5, mfirst, if_neg n10, mfirst, if_neg n20, mfirst, if_neg n25, mfirst, if_neg n50, mfirst, if_neg n100, mfirst, if_neg n200, mfirst, if_neg n250, mfirst, if_neg n500, mfirst, if_neg n1000, mfirst, if_neg n2000, mfirst, if_neg n2500, mfirst, if_neg n5000, mfirst, if_neg n10000, mfirst, if_neg n20000, mfirst, if_neg n25000, mfirst, if_neg n50000, mfirst, if_neg n100000, mfirst, if_neg n200000, mfirst, if_neg n250000, mfirst, if_neg n500000, mfirst, if_pos p1000000] at hQ; exact hQ) (fun n1000000 p2000000 => by rw [mfirst, if_neg n1, mfirst, if_neg n2, mfirst, if_neg n5, mfirst, if_neg n10, mfirst, if_neg n20, mfirst, if_neg n25, mfirst, if_neg n50, mfirst, if_neg n100, mfirst, if_neg n200, mfirst, if_neg n250, mfirst, if_neg n500, mfirst, if_neg n1000, mfirst, if_neg n2000, mfirst, if_neg n2500, mfirst, if_neg n5000, mfirst, if_neg n10000, mfirst, if_neg n20000, mfirst, if_neg n25000, mfirst, if_neg n50000, mfirst, if_neg n100000, mfirst, if_neg n200000, mfirst, if_neg n250000, mfirst, if_neg n500000, mfirst, if_neg n1000000, mfirst, if_pos p2000000] at hQ; exact hQ) (fun n1000000 n2000000 _ => absurd hst n2000000) (fun n1000000 n2000000 n2500000 _ => absurd hst n2000000) (fun n1000000 n2000000 n2500000 n5000000 => absurd hst n2000000)
def FX6_step (I : xMi) (V : Nat → Nat → Int32) (ax : Int32) (m : Int32) : Int32 := (if (FX6_isAxis ax) = 0 then (-1 : Int32) else (if (FX6_in m (2 : Int32) (20 : Int32)) = 0 then (-1 : Int32) else (FX6_stepOf I V ax m)))
set_option maxHeartbeats 4000000 in
set_option maxRecDepth 100000 in
theorem kX6_step {G : xG} {l : Launch} {d : Nat} {h : xH} {Q : Option Value → xH → Prop} {A : Nat → Nat} {I : xMi} {V : Nat → Nat → Int32} {ax : Int32} {m : Int32} (hM : xMod G A I V h) (hst : vp_in ax 2 → ¬ FX6_in m 2 20 = 0 → FX6_ticks I V ax 2000000 ≤ m)  (hQ : Q (some (.int (FX6_step I V ax m))) h) : xV G l mX6_step (d + 4) 0 0 0 0 0 [.ref (A 0), .int ax, .int m] [] h Q := by
  refine x_iload_n dX6_step_0 rfl ?_
  refine x_callS (M' := mX6_isAxis) (mc' := 0) (ms' := 0) (As := [.int ax]) dX6_step_1 gX6_step_X6_isAxis okX6_isAxis rfl rfl (Nat.le_of_ble_eq_true rfl) (Nat.le_of_ble_eq_true rfl) (Nat.le_refl _) (Nat.le_refl _) (Nat.le_refl _) ?_
  refine kX6_isAxis  ?_
  show xV _ _ _ _ _ _ _ _ _ _ _ _ _
  have J27 : xV G l mX6_step (d + 4) 0 0 0 0 27 [.ref (A 0), .int ax, .int m] [.int (if (FX6_isAxis ax) = 0 then (-1 : Int32) else (if (FX6_in m (2 : Int32) (20 : Int32)) = 0 then (-1 : Int32) else (FX6_stepOf I V ax m)))] h Q := by
    exact x_iret dX6_step_27 rfl (xri (by unfold FX6_step; rfl) hQ)
  refine x_if_eq (tgt := 26) dX6_step_4 (by decide) (fun hc_4 => ?_) (fun hc_4 => ?_)
  · refine x_iconst (v := (-1)) dX6_step_26 (by decide) ?_
    exact x_ls rfl (by first | rfl | (rw [if_pos hc_4] <;> rfl) | (simp only [if_pos hc_4]; rfl) | (simp only [if_pos hc_4])) J27
  · refine x_iload_n dX6_step_7 rfl ?_
    refine x_iconst (v := 2) dX6_step_8 (by decide) ?_
    refine x_bipush (v := 20) dX6_step_9 (by decide) ?_
    refine x_callS (M' := mX6_in) (mc' := 0) (ms' := 0) (As := [.int m, .int (2 : Int32), .int (20 : Int32)]) dX6_step_11 gX6_step_X6_in okX6_in rfl rfl (Nat.le_of_ble_eq_true rfl) (Nat.le_of_ble_eq_true rfl) (Nat.le_refl _) (Nat.le_refl _) (Nat.le_refl _) ?_
    refine kX6_in  ?_
    show xV _ _ _ _ _ _ _ _ _ _ _ _ _
    refine x_if_eq (tgt := 26) dX6_step_14 (by decide) (fun hc_14 => ?_) (fun hc_14 => ?_)
    · refine x_iconst (v := (-1)) dX6_step_26 (by decide) ?_
      exact x_ls rfl (by first | rfl | (rw [if_neg hc_4, if_pos hc_14] <;> rfl) | (simp only [if_neg hc_4, if_pos hc_14]; rfl) | (simp only [if_neg hc_4, if_pos hc_14])) J27
    · refine x_aload_n dX6_step_17 rfl ?_
      refine x_iload_n dX6_step_18 rfl ?_
      refine x_iload_n dX6_step_19 rfl ?_
      refine x_callV (M' := mX6_stepOf) (mc' := 0) (ms' := 0) (As := [.int ax, .int m]) dX6_step_20 gX6_step_X6_stepOf okX6_stepOf rfl rfl hM.1 rfl (Nat.le_of_ble_eq_true rfl) (Nat.le_of_ble_eq_true rfl) (Nat.le_refl _) (Nat.le_refl _) (Nat.le_refl _) ?_
      refine kX6_stepOf hM (axis_in hc_4) (hst (axis_in hc_4) hc_14) ?_
      show xV _ _ _ _ _ _ _ _ _ _ _ _ _
      refine x_goto (tgt := 27) dX6_step_23 (by decide) ?_
      exact x_ls rfl (by first | rfl | (rw [if_neg hc_4, if_neg hc_14] <;> rfl) | (simp only [if_neg hc_4, if_neg hc_14]; rfl) | (simp only [if_neg hc_4, if_neg hc_14])) J27
def LX6_tick (I : xMi) (V : Nat → Nat → Int32) (ax t : Int32) : Nat → Int32 → Int32 → Int32
  | 0, _, _ => (-2000000000)
  | n9 + 1, v, rs => if (V 4 (Int32.toNatClampNeg ax)) < v then (-2000000000) else if FX6_has I V ax v = 0 then LX6_tick I V ax t n9 (v + t) rs else if rs = 0 then v else LX6_tick I V ax t n9 (v + t) (rs + (-1))
theorem tk_add {v t b : Int32} {n : Nat} (h1 : 0 < t.toInt) (h2 : t.toInt ≤ 2000000) (h3 : b.toInt ≤ 1000000) (hv : ¬ b < v) (h0 : -3000000 ≤ v.toInt) (hf : b.toInt < v.toInt + ((n + 1 : Nat) : Int) * 1) : b.toInt < (v + t).toInt + (n : Int) * 1 ∧ -3000000 ≤ (v + t).toInt := by
  rw [Int32.lt_iff_toInt_lt] at hv
  rw [Int32.toInt_add]
  have : (v.toInt + t.toInt).bmod (2 ^ 32) = v.toInt + t.toInt := by
    rw [Int.bmod_def]; omega
  rw [this]
  omega
theorem tk_end {v b : Int32} (hf : b.toInt < v.toInt + ((0 : Nat) : Int) * 1) : b < v := by
  rw [Int32.lt_iff_toInt_lt]; omega
def FX6_tickL (I : xMi) (V : Nat → Nat → Int32) (ax m kk : Int32) : Int32 := LX6_tick I V ax (FX6_stepOf I V ax m) ((V 4 (Int32.toNatClampNeg ax)).toInt + 3000001).toNat ((-FX6_floor (-V 3 (Int32.toNatClampNeg ax)) (FX6_stepOf I V ax m)) * (FX6_stepOf I V ax m)) kk
def FX6_tick (I : xMi) (V : Nat → Nat → Int32) (ax m kk : Int32) : Int32 := (if (FX6_isAxis ax) = 0 then (-2000000000 : Int32) else (if (FX6_in m (2 : Int32) (20 : Int32)) = 0 then (-2000000000 : Int32) else (if 0 ≤ kk then (FX6_tickL I V ax m kk) else (-2000000000 : Int32))))
set_option maxHeartbeats 4000000 in
set_option maxRecDepth 100000 in
theorem kX6_tick {G : xG} {l : Launch} {d : Nat} {h : xH} {Q : Option Value → xH → Prop} {A : Nat → Nat} {I : xMi} {V : Nat → Nat → Int32} {ax m kk : Int32} (hM : xMod G A I V h) (hH : vp_in ax 2 → ¬ FX6_in m 2 20 = 0 → FX6_ticks I V ax 2000000 ≤ m ∧ 0 < (FX6_stepOf I V ax m).toInt ∧ (FX6_stepOf I V ax m).toInt ≤ 2000000 ∧ (V 4 (Int32.toNatClampNeg ax)).toInt ≤ 1000000 ∧ -3000000 ≤ ((-FX6_floor (-V 3 (Int32.toNatClampNeg ax)) (FX6_stepOf I V ax m)) * (FX6_stepOf I V ax m)).toInt) (hQ : Q (some (.int (FX6_tick I V ax m kk))) h) : xV G l mX6_tick (d + 5) 0 0 0 0 0 [.ref (A 0), .int ax, .int m, .int kk, xU, xU, xU] [] h Q := by
  have loop : vp_in ax 2 → ∀ {t : Int32}, 0 < t.toInt → t.toInt ≤ 2000000 → (V 4 (Int32.toNatClampNeg ax)).toInt ≤ 1000000 → ∀ (n9 : Nat) (v rs : Int32), (V 4 (Int32.toNatClampNeg ax)).toInt < v.toInt + (n9 : Int) * 1 → -3000000 ≤ v.toInt → Q (some (.int (LX6_tick I V ax t n9 v rs))) h → xV G l mX6_tick (d + 5) 0 0 0 0 53 [.ref (A 0), .int ax, .int m, .int kk, .int t, .int rs, .int v] [] h Q := by
    clear hQ
    intro hax t ht0 ht2 hhi n9
    induction n9 with
    | zero =>
      intro v rs hfu hv0 hQ
      refine x_iload dX6_tick_53 rfl ?_
      refine x_aload_n dX6_tick_55 rfl ?_
      refine x_get 4 dX6_tick_56 hM.1 rfl (by decide) (by decide +kernel) rfl ?_
      refine x_iload_n dX6_tick_59 rfl ?_
      refine x_iald dX6_tick_60 (hM.r 4 (by decide) (by decide)) hax ?_
      refine x_icmp_gt (tgt := 95) dX6_tick_61 (by decide) (fun _ => ?_) (fun z9 => absurd (tk_end hfu) z9)
      refine x_ldc (v := (-2000000000)) dX6_tick_95 (by decide +kernel) ?_
      rw [LX6_tick] at hQ
      exact x_iret dX6_tick_97 rfl hQ
    | succ n9 ih =>
      intro v rs hfu hv0 hQ
      refine x_iload dX6_tick_53 rfl ?_
      refine x_aload_n dX6_tick_55 rfl ?_
      refine x_get 4 dX6_tick_56 hM.1 rfl (by decide) (by decide +kernel) rfl ?_
      refine x_iload_n dX6_tick_59 rfl ?_
      refine x_iald dX6_tick_60 (hM.r 4 (by decide) (by decide)) hax ?_
      refine x_icmp_gt (tgt := 95) dX6_tick_61 (by decide) (fun hc_61 => ?_) (fun hc_61 => ?_)
      · refine x_ldc (v := (-2000000000)) dX6_tick_95 (by decide +kernel) ?_
        rw [LX6_tick, if_pos hc_61] at hQ
        exact x_iret dX6_tick_97 rfl hQ
      · refine x_aload_n dX6_tick_64 rfl ?_
        refine x_iload_n dX6_tick_65 rfl ?_
        refine x_iload dX6_tick_66 rfl ?_
        refine x_callV (M' := mX6_has) (mc' := 0) (ms' := 0) (As := [.int ax, .int v]) dX6_tick_68 gX6_tick_X6_has okX6_has rfl rfl hM.1 rfl (Nat.le_of_ble_eq_true rfl) (Nat.le_of_ble_eq_true rfl) (Nat.le_refl _) (Nat.le_refl _) (Nat.le_refl _) ?_
        refine kX6_has hM hax ?_
        show xV _ _ _ _ _ _ _ _ _ _ _ _ _
        refine x_if_eq (tgt := 85) dX6_tick_71 (by decide) (fun hc_71 => ?_) (fun hc_71 => ?_)
        · refine x_iload dX6_tick_85 rfl ?_
          refine x_iload dX6_tick_87 rfl ?_
          refine x_iadd dX6_tick_89 ?_
          refine x_istore dX6_tick_90 (by decide) rfl ?_
          refine x_goto (tgt := 53) dX6_tick_92 (by decide) ?_
          rw [LX6_tick, if_neg hc_61, if_pos hc_71] at hQ
          refine xV.sub (L' := [.ref (A 0), .int ax, .int m, .int kk, .int t, .int rs, .int (v + t)]) ⟨Or.inr rfl, Or.inr rfl, Or.inr rfl, Or.inr rfl, Or.inr rfl, Or.inr rfl, Or.inr rfl, trivial⟩ (ih _ _ (tk_add ht0 ht2 hhi hc_61 hv0 hfu).1 (tk_add ht0 ht2 hhi hc_61 hv0 hfu).2 hQ)
        · refine x_iload dX6_tick_74 rfl ?_
          refine x_if_ne (tgt := 82) dX6_tick_76 (by decide) (fun hc_76 => ?_) (fun hc_76 => ?_)
          · refine x_iinc (v := (-1)) dX6_tick_82 rfl (by decide) (by decide) rfl ?_
            refine x_iload dX6_tick_85 rfl ?_
            refine x_iload dX6_tick_87 rfl ?_
            refine x_iadd dX6_tick_89 ?_
            refine x_istore dX6_tick_90 (by decide) rfl ?_
            refine x_goto (tgt := 53) dX6_tick_92 (by decide) ?_
            rw [LX6_tick, if_neg hc_61, if_neg hc_71, if_neg hc_76] at hQ
            refine xV.sub (L' := [.ref (A 0), .int ax, .int m, .int kk, .int t, .int (rs + (-1)), .int (v + t)]) ⟨Or.inr rfl, Or.inr rfl, Or.inr rfl, Or.inr rfl, Or.inr rfl, Or.inr rfl, Or.inr rfl, trivial⟩ (ih _ _ (tk_add ht0 ht2 hhi hc_61 hv0 hfu).1 (tk_add ht0 ht2 hhi hc_61 hv0 hfu).2 hQ)
          · refine x_iload dX6_tick_79 rfl ?_
            rw [LX6_tick, if_neg hc_61, if_neg hc_71, if_pos hc_76] at hQ
            exact x_iret dX6_tick_81 rfl hQ
  refine x_iload_n dX6_tick_0 rfl ?_
  refine x_callS (M' := mX6_isAxis) (mc' := 0) (ms' := 0) (As := [.int ax]) dX6_tick_1 gX6_tick_X6_isAxis okX6_isAxis rfl rfl (Nat.le_of_ble_eq_true rfl) (Nat.le_of_ble_eq_true rfl) (Nat.le_refl _) (Nat.le_refl _) (Nat.le_refl _) ?_
  refine kX6_isAxis  ?_
  show xV _ _ _ _ _ _ _ _ _ _ _ _ _
  refine x_if_eq (tgt := 21) dX6_tick_4 (by decide) (fun hc_4 => ?_) (fun hc_4 => ?_)
  · refine x_ldc (v := (-2000000000)) dX6_tick_21 (by decide +kernel) ?_
    exact x_iret dX6_tick_23 rfl (xri (by unfold FX6_tick; rw [if_pos hc_4]) hQ)
  · refine x_iload_n dX6_tick_7 rfl ?_
    refine x_iconst (v := 2) dX6_tick_8 (by decide) ?_
    refine x_bipush (v := 20) dX6_tick_9 (by decide) ?_
    refine x_callS (M' := mX6_in) (mc' := 0) (ms' := 0) (As := [.int m, .int (2 : Int32), .int (20 : Int32)]) dX6_tick_11 gX6_tick_X6_in okX6_in rfl rfl (Nat.le_of_ble_eq_true rfl) (Nat.le_of_ble_eq_true rfl) (Nat.le_refl _) (Nat.le_refl _) (Nat.le_refl _) ?_
    refine kX6_in  ?_
    show xV _ _ _ _ _ _ _ _ _ _ _ _ _
    refine x_if_eq (tgt := 21) dX6_tick_14 (by decide) (fun hc_14 => ?_) (fun hc_14 => ?_)
    · refine x_ldc (v := (-2000000000)) dX6_tick_21 (by decide +kernel) ?_
      exact x_iret dX6_tick_23 rfl (xri (by unfold FX6_tick; rw [if_neg hc_4, if_pos hc_14]) hQ)
    · refine x_iload_n dX6_tick_17 rfl ?_
      refine x_if_ge (tgt := 24) dX6_tick_18 (by decide) (fun hc_18 => ?_) (fun hc_18 => ?_)
      · obtain ⟨hst1, ht0, ht2, hhi, hv0⟩ := hH (axis_in hc_4) hc_14
        have hz : ¬ (FX6_stepOf I V ax m) = 0 := fun q => by rw [q] at ht0; exact absurd ht0 (by decide)
        refine x_aload_n dX6_tick_24 rfl ?_
        refine x_iload_n dX6_tick_25 rfl ?_
        refine x_iload_n dX6_tick_26 rfl ?_
        refine x_callV (M' := mX6_stepOf) (mc' := 0) (ms' := 0) (As := [.int ax, .int m]) dX6_tick_27 gX6_tick_X6_stepOf okX6_stepOf rfl rfl hM.1 rfl (Nat.le_of_ble_eq_true rfl) (Nat.le_of_ble_eq_true rfl) (Nat.le_refl _) (Nat.le_refl _) (Nat.le_refl _) ?_
        refine kX6_stepOf hM (axis_in hc_4) hst1 ?_
        show xV _ _ _ _ _ _ _ _ _ _ _ _ _
        refine x_istore dX6_tick_30 (by decide) rfl ?_
        refine x_iload_n dX6_tick_32 rfl ?_
        refine x_istore dX6_tick_33 (by decide) rfl ?_
        refine x_aload_n dX6_tick_35 rfl ?_
        refine x_get 3 dX6_tick_36 hM.1 rfl (by decide) (by decide +kernel) rfl ?_
        refine x_iload_n dX6_tick_39 rfl ?_
        refine x_iald dX6_tick_40 (hM.r 3 (by decide) (by decide)) (axis_in hc_4) ?_
        refine x_ineg dX6_tick_41 ?_
        refine x_iload dX6_tick_42 rfl ?_
        refine x_callS (M' := mX6_floor) (mc' := 0) (ms' := 0) (As := [.int (-((V 3) (Int32.toNatClampNeg ax))), .int (FX6_stepOf I V ax m)]) dX6_tick_44 gX6_tick_X6_floor okX6_floor rfl rfl (Nat.le_of_ble_eq_true rfl) (Nat.le_of_ble_eq_true rfl) (Nat.le_refl _) (Nat.le_refl _) (Nat.le_refl _) ?_
        refine kX6_floor hz ?_
        show xV _ _ _ _ _ _ _ _ _ _ _ _ _
        refine x_ineg dX6_tick_47 ?_
        refine x_iload dX6_tick_48 rfl ?_
        refine x_imul dX6_tick_50 ?_
        refine x_istore dX6_tick_51 (by decide) rfl ?_
        unfold FX6_tick at hQ
        rw [if_neg hc_4, if_neg hc_14, if_pos hc_18] at hQ
        refine xV.sub (L' := [.ref (A 0), .int ax, .int m, .int kk, .int (FX6_stepOf I V ax m), .int kk, .int ((-FX6_floor (-V 3 (Int32.toNatClampNeg ax)) (FX6_stepOf I V ax m)) * (FX6_stepOf I V ax m))]) ⟨Or.inr rfl, Or.inr rfl, Or.inr rfl, Or.inr rfl, Or.inr rfl, Or.inr rfl, Or.inr rfl, trivial⟩ (loop (axis_in hc_4) ht0 ht2 hhi ((V 4 (Int32.toNatClampNeg ax)).toInt + 3000001).toNat _ _ (by omega) hv0 hQ)
      · refine x_ldc (v := (-2000000000)) dX6_tick_21 (by decide +kernel) ?_
        exact x_iret dX6_tick_23 rfl (xri (by unfold FX6_tick; rw [if_neg hc_4, if_neg hc_14, if_neg hc_18]) hQ)
