def LX5_fit (I : Nat → xSi) (V : Nat → Nat → Nat → Int32) (ax : Int32) : Nat → Nat → Int32 → Int32 → Int32 × Int32
  | 0, _, a, b => (a, b)
  | n9 + 1, j, a, b => LX5_fit I V ax n9 (j + 1) (if FX3_leastOn (I j) (V j) ax < a then FX3_leastOn (I j) (V j) ax else a) (if b < FX3_greatestOn (I j) (V j) ax then FX3_greatestOn (I j) (V j) ax else b)
/-- the least and the greatest value of all series -/
def fitR (N : Nat) (I : Nat → xSi) (V : Nat → Nat → Nat → Int32) (ax : Int32) : Int32 × Int32 := LX5_fit I V ax N 0 1000001 (-1000001)
set_option maxHeartbeats 4000000 in
set_option maxRecDepth 100000 in
theorem kX5_fit {G : xG} {l : Launch} {d : Nat} {h : xH} {Q : Option Value → xH → Prop} {sc pg sx sy al ed : Nat} {C : Nat → Nat} {B : Nat → Nat → Nat} {p : xPv} {n : Int32} {U : Nat → Nat → Int32} {md : Int32} {N : Nat} {I : Nat → xSi} {V : Nat → Nat → Nat → Int32} {ax : Int32} (hK : xCls G sc pg sx sy al ed C B p n U md N I V h) (hD : xDs sc pg sx sy al ed C B) (hz : ∀ k, k < N → (I k).2.2.2.1 ≤ 24) (hQ : (if ax = 0 then (if (fitR N I V ax).1 ≤ (fitR N I V ax).2 then (if (if (fitR N I V ax).1 = (fitR N I V ax).2 then ((fitR N I V ax).2 + (1 : Int32)) else (fitR N I V ax).2) ≤ (1000000 : Int32) then (∀ h', xCls G sc pg sx sy al ed C B (p.1, p.2.1, ((0 : Int32), (fitR N I V ax).1, (if (fitR N I V ax).1 = (fitR N I V ax).2 then ((fitR N I V ax).2 + (1 : Int32)) else (fitR N I V ax).2), p.2.2.1.2.2.2.1, p.2.2.1.2.2.2.2.1, p.2.2.1.2.2.2.2.2), p.2.2.2) n U md N (fun k => st1 (I k)) V h' → xfrK sc pg sx sy al ed C B h h' → Q (some (.int (1 : Int32))) h') else Q (some (.int (-2 : Int32))) h) else Q (some (.int (-2 : Int32))) h) else (if ax = 1 then (if (fitR N I V ax).1 ≤ (fitR N I V ax).2 then (if (if (fitR N I V ax).1 = (fitR N I V ax).2 then ((fitR N I V ax).2 + (1 : Int32)) else (fitR N I V ax).2) ≤ (1000000 : Int32) then (∀ h', xCls G sc pg sx sy al ed C B (p.1, p.2.1, p.2.2.1, ((0 : Int32), (fitR N I V ax).1, (if (fitR N I V ax).1 = (fitR N I V ax).2 then ((fitR N I V ax).2 + (1 : Int32)) else (fitR N I V ax).2), p.2.2.2.2.2.2.1, p.2.2.2.2.2.2.2.1, p.2.2.2.2.2.2.2.2)) n U md N (fun k => st1 (I k)) V h' → xfrK sc pg sx sy al ed C B h h' → Q (some (.int (1 : Int32))) h') else Q (some (.int (-2 : Int32))) h) else Q (some (.int (-2 : Int32))) h) else Q (some (.int (-1 : Int32))) h))) : xV G l mX5_fit (d + 4) 0 0 0 0 0 [.ref sc, .int ax, xU, xU, xU, xU, xU] [] h Q := by
  have hN6 := hK.2.2.2.2.2.2
  have inner : ∀ (r9 n9 j : Nat) (a b : Int32), j + n9 = N → xV G l mX5_fit (d + 4) 0 0 0 0 81 [.ref sc, .int ax, .ref r9, .int (LX5_fit I V ax n9 j a b).1, .int (LX5_fit I V ax n9 j a b).2, xU, xU] [] h Q → xV G l mX5_fit (d + 4) 0 0 0 0 25 [.ref sc, .int ax, .ref r9, .int a, .int b, .int (nI j), xU] [] h Q := by
    intro r9 n9
    induction n9 with
    | zero =>
      intro j a b hj9 hk
      rw [LX5_fit] at hk
      refine x_iload dX5_fit_25 rfl ?_
      refine x_aload_n dX5_fit_27 rfl ?_
      refine x_get 1 dX5_fit_28 hK.1 rfl (by decide) (by decide +kernel) rfl ?_
      refine x_callV (M' := mJx4a65c_size_8abf5) (mc' := 0) (ms' := 0) (As := []) dX5_fit_31 gX5_fit_Jx4a65c_size_8abf5 okJx4a65c_size_8abf5 rfl rfl hK.2.2.2.1 rfl (Nat.le_of_ble_eq_true rfl) (Nat.le_of_ble_eq_true rfl) (Nat.le_refl _) (Nat.le_refl _) (Nat.le_refl _) ?_
      refine kJx4a65c_size_8abf5 hK.2.2.2.1 ?_
      show xV _ _ _ _ _ _ _ _ _ _ _ _ _
      refine x_icmp_ge (tgt := 81) dX5_fit_34 (by decide) (fun _ => ?_) (fun z9 => absurd (nI_le (a := N) (b := j) (by omega) (by omega)) z9)
      refine xV.sub (L' := [.ref sc, .int ax, .ref r9, .int a, .int b, xU, xU]) ⟨Or.inr rfl, Or.inr rfl, Or.inr rfl, Or.inr rfl, Or.inr rfl, Or.inl rfl, Or.inl rfl, trivial⟩ hk
    | succ n9 ih =>
      intro j a b hj9 hk
      rw [LX5_fit] at hk
      refine x_iload dX5_fit_25 rfl ?_
      refine x_aload_n dX5_fit_27 rfl ?_
      refine x_get 1 dX5_fit_28 hK.1 rfl (by decide) (by decide +kernel) rfl ?_
      refine x_callV (M' := mJx4a65c_size_8abf5) (mc' := 0) (ms' := 0) (As := []) dX5_fit_31 gX5_fit_Jx4a65c_size_8abf5 okJx4a65c_size_8abf5 rfl rfl hK.2.2.2.1 rfl (Nat.le_of_ble_eq_true rfl) (Nat.le_of_ble_eq_true rfl) (Nat.le_refl _) (Nat.le_refl _) (Nat.le_refl _) ?_
      refine kJx4a65c_size_8abf5 hK.2.2.2.1 ?_
      show xV _ _ _ _ _ _ _ _ _ _ _ _ _
      refine x_icmp_ge (tgt := 81) dX5_fit_34 (by decide) (fun z9 => absurd z9 (nI_ge (a := j) (b := N) (by omega) (by omega))) (fun _ => ?_)
      have hj : j < N := by omega
      refine x_aload_n dX5_fit_37 rfl ?_
      refine x_get 1 dX5_fit_38 hK.1 rfl (by decide) (by decide +kernel) rfl ?_
      refine x_iload dX5_fit_41 rfl ?_
      refine x_callV (M' := mJx4a65c_get_915e3) (mc' := 0) (ms' := 0) (As := [.int (nI j)]) dX5_fit_43 gX5_fit_Jx4a65c_get_915e3 okJx4a65c_get_915e3 rfl rfl hK.2.2.2.1 rfl (Nat.le_of_ble_eq_true rfl) (Nat.le_of_ble_eq_true rfl) (Nat.le_refl _) (Nat.le_refl _) (Nat.le_refl _) ?_
      refine kJx4a65c_get_915e3 (j := j) hK.2.2.2.1 (hK.2.2.2.2.1 (by omega)) hj hK.2.2.2.2.2.2 ?_
      show xV _ _ _ _ _ _ _ _ _ _ _ _ _
      refine x_cast dX5_fit_46 (hK.2.2.2.2.2.1 j hj).1 rfl (by decide +kernel) ?_
      refine x_astore dX5_fit_49 (by decide) rfl ?_
      refine x_iload_n dX5_fit_51 rfl ?_
      refine x_aload dX5_fit_52 rfl ?_
      refine x_iload_n dX5_fit_54 rfl ?_
      refine x_callV (M' := mX3_leastOn) (mc' := 0) (ms' := 0) (As := [.int ax]) dX5_fit_55 gX5_fit_X3_leastOn okX3_leastOn rfl rfl (hK.2.2.2.2.2.1 j hj).1 rfl (Nat.le_of_ble_eq_true rfl) (Nat.le_of_ble_eq_true rfl) (Nat.le_refl _) (Nat.le_refl _) (Nat.le_refl _) ?_
      refine kX3_leastOn (hK.2.2.2.2.2.1 j hj) (hz _ hj) ?_
      show xV _ _ _ _ _ _ _ _ _ _ _ _ _
      refine x_mmin dX5_fit_58 (by decide +kernel) (by decide +kernel) (by decide +kernel) (by decide +kernel) (Nat.le_of_ble_eq_true rfl) (by omega) (Nat.le_refl _) (Nat.le_refl _) ?_
      refine x_istore_n dX5_fit_61 (by decide) rfl ?_
      refine x_iload dX5_fit_62 rfl ?_
      refine x_aload dX5_fit_64 rfl ?_
      refine x_iload_n dX5_fit_66 rfl ?_
      refine x_callV (M' := mX3_greatestOn) (mc' := 0) (ms' := 0) (As := [.int ax]) dX5_fit_67 gX5_fit_X3_greatestOn okX3_greatestOn rfl rfl (hK.2.2.2.2.2.1 j hj).1 rfl (Nat.le_of_ble_eq_true rfl) (Nat.le_of_ble_eq_true rfl) (Nat.le_refl _) (Nat.le_refl _) (Nat.le_refl _) ?_
      refine kX3_greatestOn (hK.2.2.2.2.2.1 j hj) (hz _ hj) ?_
      show xV _ _ _ _ _ _ _ _ _ _ _ _ _
      refine x_mmax dX5_fit_70 (by decide +kernel) (by decide +kernel) (by decide +kernel) (by decide +kernel) (Nat.le_of_ble_eq_true rfl) (by omega) (Nat.le_refl _) (Nat.le_refl _) ?_
      refine x_istore dX5_fit_73 (by decide) rfl ?_
      refine x_iinc (v := 1) dX5_fit_75 rfl (by decide) (by decide) rfl ?_
      refine x_goto (tgt := 25) dX5_fit_78 (by decide) ?_
      refine xV.sub (L' := [.ref sc, .int ax, .ref r9, .int (if (FX3_leastOn (I j) (V j) ax) < a then (FX3_leastOn (I j) (V j) ax) else a), .int (if b < (FX3_greatestOn (I j) (V j) ax) then (FX3_greatestOn (I j) (V j) ax) else b), .int (nI (j + 1)), xU]) ⟨Or.inr rfl, Or.inr rfl, Or.inr rfl, Or.inr rfl, Or.inr rfl, Or.inr (congrArg Value.int (nI_1 j)), Or.inl rfl, trivial⟩ (ih (j + 1) (if (FX3_leastOn (I j) (V j) ax) < a then (FX3_leastOn (I j) (V j) ax) else a) (if b < (FX3_greatestOn (I j) (V j) ax) then (FX3_greatestOn (I j) (V j) ax) else b) (by omega) hk)
  refine x_aload_n dX5_fit_0 rfl ?_
  refine x_get 0 dX5_fit_1 hK.1 rfl (by decide) (by decide +kernel) rfl ?_
  refine x_iload_n dX5_fit_4 rfl ?_
  refine x_callV (M' := mX1_scaleOf) (mc' := 0) (ms' := 0) (As := [.int ax]) dX5_fit_5 gX5_fit_X1_scaleOf okX1_scaleOf rfl rfl hK.2.1.1 rfl (Nat.le_of_ble_eq_true rfl) (Nat.le_of_ble_eq_true rfl) (Nat.le_refl _) (Nat.le_refl _) (Nat.le_refl _) ?_
  refine kX1_scaleOf hK.2.1 ?_
  rcases xax ax with hx0 | hx1 | ⟨hx0, hx1⟩
  · rw [if_pos hx0]
    show xV _ _ _ _ _ _ _ _ _ _ _ _ _
    refine x_astore_n dX5_fit_8 (by decide) rfl ?_
    refine x_aload_n dX5_fit_9 rfl ?_
    refine x_ifnonnull (tgt := 15) dX5_fit_10 (by decide) ?_
    refine x_ldc (v := 1000001) dX5_fit_15 (by decide +kernel) ?_
    refine x_istore_n dX5_fit_17 (by decide) rfl ?_
    refine x_ldc (v := (-1000001)) dX5_fit_18 (by decide +kernel) ?_
    refine x_istore dX5_fit_20 (by decide) rfl ?_
    refine x_iconst (v := 0) dX5_fit_22 (by decide) ?_
    refine x_istore dX5_fit_23 (by decide) rfl ?_
    refine xV.sub (L' := [.ref sc, .int ax, .ref sx, .int 1000001, .int (-1000001), .int (nI 0), xU]) ⟨Or.inr rfl, Or.inr rfl, Or.inr rfl, Or.inr rfl, Or.inr rfl, Or.inr (congrArg Value.int nI_0.symm), Or.inl rfl, trivial⟩ (inner sx N 0 1000001 (-1000001) (by omega) ?_)
    show xV G l mX5_fit (d + 4) 0 0 0 0 81 [.ref sc, .int ax, .ref sx, .int (fitR N I V ax).1, .int (fitR N I V ax).2, xU, xU] [] h Q
    refine x_iload_n dX5_fit_81 rfl ?_
    refine x_iload dX5_fit_82 rfl ?_
    refine x_icmp_le (tgt := 90) dX5_fit_84 (by decide) (fun hc_84 => ?_) (fun hc_84 => ?_)
    · refine x_iload_n dX5_fit_90 rfl ?_
      refine x_iload dX5_fit_91 rfl ?_
      have J105 : xV G l mX5_fit (d + 4) 0 0 0 0 105 [.ref sc, .int ax, .ref sx, .int ((fitR N I V ax).1), .int ((fitR N I V ax).2), xU, xU] [.int (if (fitR N I V ax).1 = (fitR N I V ax).2 then ((fitR N I V ax).2 + (1 : Int32)) else (fitR N I V ax).2)] h Q := by
        refine x_istore dX5_fit_105 (by decide) rfl ?_
        refine x_iload dX5_fit_107 rfl ?_
        refine x_ldc (v := 1000000) dX5_fit_109 (by decide +kernel) ?_
        refine x_icmp_le (tgt := 117) dX5_fit_111 (by decide) (fun hc_111 => ?_) (fun hc_111 => ?_)
        · refine x_aload_n dX5_fit_117 rfl ?_
          refine x_iconst (v := 0) dX5_fit_118 (by decide) ?_
          refine x_iload_n dX5_fit_119 rfl ?_
          refine x_iload dX5_fit_120 rfl ?_
          refine x_callV (M' := mX2_spread) (mc' := 0) (ms' := 0) (As := [.int (0 : Int32), .int ((fitR N I V ax).1), .int (if (fitR N I V ax).1 = (fitR N I V ax).2 then ((fitR N I V ax).2 + (1 : Int32)) else (fitR N I V ax).2)]) dX5_fit_122 gX5_fit_X2_spread okX2_spread rfl rfl hK.2.1.2.1 rfl (Nat.le_of_ble_eq_true rfl) (Nat.le_of_ble_eq_true rfl) (Nat.le_refl _) (Nat.le_refl _) (Nat.le_refl _) ?_
          refine kX2_spread hK.2.1.2.1 ?_
          have hK := hK.page hD (p' := (p.1, p.2.1, ((0 : Int32), (fitR N I V ax).1, (if (fitR N I V ax).1 = (fitR N I V ax).2 then ((fitR N I V ax).2 + (1 : Int32)) else (fitR N I V ax).2), p.2.2.1.2.2.2.1, p.2.2.1.2.2.2.2.1, p.2.2.1.2.2.2.2.2), p.2.2.2)) (fun a9 z1 z2 z3 => xup_n z2) ⟨xup_k hD.2.2.2.2.2.2.1.1 hK.2.1.1, xup_s, xup_k (Ne.symm hD.2.2.2.2.2.2.2.1.1) hK.2.1.2.2⟩
          show xV _ _ _ _ _ _ _ _ _ _ _ _ _
          refine x_aload_n dX5_fit_125 rfl ?_
          refine x_callV (M' := mX5_markAllStale) (mc' := 0) (ms' := 0) (As := []) dX5_fit_126 gX5_fit_X5_markAllStale okX5_markAllStale rfl rfl hK.1 rfl (Nat.le_of_ble_eq_true rfl) (Nat.le_of_ble_eq_true rfl) (Nat.le_refl _) (Nat.le_refl _) (Nat.le_refl _) ?_
          refine kX5_markAllStale hK hD (fun h2 hK2 hF2 => ?_)
          show xV _ _ _ _ _ _ _ _ _ _ _ _ _
          refine x_iconst (v := 1) dX5_fit_129 (by decide) ?_
          rw [if_pos hx0, if_pos hc_84, if_pos hc_111] at hQ
          exact x_iret dX5_fit_130 rfl (hQ _ hK2 (fun a9 eB eC e1 e2 e3 e4 e5 e6 => (hF2 a9 eB).trans (xup_n e3)))
        · refine x_bipush (v := (-2)) dX5_fit_114 (by decide) ?_
          rw [if_pos hx0, if_pos hc_84, if_neg hc_111] at hQ
          exact x_iret dX5_fit_116 rfl hQ
      refine x_icmp_ne (tgt := 103) dX5_fit_93 (by decide) (fun hc_93 => ?_) (fun hc_93 => ?_)
      · refine x_iload dX5_fit_103 rfl ?_
        exact x_ls rfl (by first | rfl | (rw [if_neg hc_93] <;> rfl) | (simp only [if_neg hc_93]; rfl) | (simp only [if_neg hc_93])) J105
      · refine x_iload dX5_fit_96 rfl ?_
        refine x_iconst (v := 1) dX5_fit_98 (by decide) ?_
        refine x_iadd dX5_fit_99 ?_
        refine x_goto (tgt := 105) dX5_fit_100 (by decide) ?_
        exact x_ls rfl (by first | rfl | (rw [if_pos hc_93] <;> rfl) | (simp only [if_pos hc_93]; rfl) | (simp only [if_pos hc_93])) J105
    · refine x_bipush (v := (-2)) dX5_fit_87 (by decide) ?_
      rw [if_pos hx0, if_neg hc_84] at hQ
      exact x_iret dX5_fit_89 rfl hQ
  · have hx0 := ne01 hx1
    rw [if_neg hx0, if_pos hx1]
    show xV _ _ _ _ _ _ _ _ _ _ _ _ _
    refine x_astore_n dX5_fit_8 (by decide) rfl ?_
    refine x_aload_n dX5_fit_9 rfl ?_
    refine x_ifnonnull (tgt := 15) dX5_fit_10 (by decide) ?_
    refine x_ldc (v := 1000001) dX5_fit_15 (by decide +kernel) ?_
    refine x_istore_n dX5_fit_17 (by decide) rfl ?_
    refine x_ldc (v := (-1000001)) dX5_fit_18 (by decide +kernel) ?_
    refine x_istore dX5_fit_20 (by decide) rfl ?_
    refine x_iconst (v := 0) dX5_fit_22 (by decide) ?_
    refine x_istore dX5_fit_23 (by decide) rfl ?_
    refine xV.sub (L' := [.ref sc, .int ax, .ref sy, .int 1000001, .int (-1000001), .int (nI 0), xU]) ⟨Or.inr rfl, Or.inr rfl, Or.inr rfl, Or.inr rfl, Or.inr rfl, Or.inr (congrArg Value.int nI_0.symm), Or.inl rfl, trivial⟩ (inner sy N 0 1000001 (-1000001) (by omega) ?_)
    show xV G l mX5_fit (d + 4) 0 0 0 0 81 [.ref sc, .int ax, .ref sy, .int (fitR N I V ax).1, .int (fitR N I V ax).2, xU, xU] [] h Q
    refine x_iload_n dX5_fit_81 rfl ?_
    refine x_iload dX5_fit_82 rfl ?_
    refine x_icmp_le (tgt := 90) dX5_fit_84 (by decide) (fun hc_84 => ?_) (fun hc_84 => ?_)
    · refine x_iload_n dX5_fit_90 rfl ?_
      refine x_iload dX5_fit_91 rfl ?_
      have J105 : xV G l mX5_fit (d + 4) 0 0 0 0 105 [.ref sc, .int ax, .ref sy, .int ((fitR N I V ax).1), .int ((fitR N I V ax).2), xU, xU] [.int (if (fitR N I V ax).1 = (fitR N I V ax).2 then ((fitR N I V ax).2 + (1 : Int32)) else (fitR N I V ax).2)] h Q := by
        refine x_istore dX5_fit_105 (by decide) rfl ?_
        refine x_iload dX5_fit_107 rfl ?_
        refine x_ldc (v := 1000000) dX5_fit_109 (by decide +kernel) ?_
        refine x_icmp_le (tgt := 117) dX5_fit_111 (by decide) (fun hc_111 => ?_) (fun hc_111 => ?_)
        · refine x_aload_n dX5_fit_117 rfl ?_
          refine x_iconst (v := 0) dX5_fit_118 (by decide) ?_
          refine x_iload_n dX5_fit_119 rfl ?_
          refine x_iload dX5_fit_120 rfl ?_
          refine x_callV (M' := mX2_spread) (mc' := 0) (ms' := 0) (As := [.int (0 : Int32), .int ((fitR N I V ax).1), .int (if (fitR N I V ax).1 = (fitR N I V ax).2 then ((fitR N I V ax).2 + (1 : Int32)) else (fitR N I V ax).2)]) dX5_fit_122 gX5_fit_X2_spread okX2_spread rfl rfl hK.2.1.2.2 rfl (Nat.le_of_ble_eq_true rfl) (Nat.le_of_ble_eq_true rfl) (Nat.le_refl _) (Nat.le_refl _) (Nat.le_refl _) ?_
          refine kX2_spread hK.2.1.2.2 ?_
          have hK := hK.page hD (p' := (p.1, p.2.1, p.2.2.1, ((0 : Int32), (fitR N I V ax).1, (if (fitR N I V ax).1 = (fitR N I V ax).2 then ((fitR N I V ax).2 + (1 : Int32)) else (fitR N I V ax).2), p.2.2.2.2.2.2.1, p.2.2.2.2.2.2.2.1, p.2.2.2.2.2.2.2.2))) (fun a9 z1 z2 z3 => xup_n z3) ⟨xup_k hD.2.2.2.2.2.2.1.2.1 hK.2.1.1, xup_k hD.2.2.2.2.2.2.2.1.1 hK.2.1.2.1, xup_s⟩
          show xV _ _ _ _ _ _ _ _ _ _ _ _ _
          refine x_aload_n dX5_fit_125 rfl ?_
          refine x_callV (M' := mX5_markAllStale) (mc' := 0) (ms' := 0) (As := []) dX5_fit_126 gX5_fit_X5_markAllStale okX5_markAllStale rfl rfl hK.1 rfl (Nat.le_of_ble_eq_true rfl) (Nat.le_of_ble_eq_true rfl) (Nat.le_refl _) (Nat.le_refl _) (Nat.le_refl _) ?_
          refine kX5_markAllStale hK hD (fun h2 hK2 hF2 => ?_)
          show xV _ _ _ _ _ _ _ _ _ _ _ _ _
          refine x_iconst (v := 1) dX5_fit_129 (by decide) ?_
          rw [if_neg hx0, if_pos hx1, if_pos hc_84, if_pos hc_111] at hQ
          exact x_iret dX5_fit_130 rfl (hQ _ hK2 (fun a9 eB eC e1 e2 e3 e4 e5 e6 => (hF2 a9 eB).trans (xup_n e4)))
        · refine x_bipush (v := (-2)) dX5_fit_114 (by decide) ?_
          rw [if_neg hx0, if_pos hx1, if_pos hc_84, if_neg hc_111] at hQ
          exact x_iret dX5_fit_116 rfl hQ
      refine x_icmp_ne (tgt := 103) dX5_fit_93 (by decide) (fun hc_93 => ?_) (fun hc_93 => ?_)
      · refine x_iload dX5_fit_103 rfl ?_
        exact x_ls rfl (by first | rfl | (rw [if_neg hc_93] <;> rfl) | (simp only [if_neg hc_93]; rfl) | (simp only [if_neg hc_93])) J105
      · refine x_iload dX5_fit_96 rfl ?_
        refine x_iconst (v := 1) dX5_fit_98 (by decide) ?_
        refine x_iadd dX5_fit_99 ?_
        refine x_goto (tgt := 105) dX5_fit_100 (by decide) ?_
        exact x_ls rfl (by first | rfl | (rw [if_pos hc_93] <;> rfl) | (simp only [if_pos hc_93]; rfl) | (simp only [if_pos hc_93])) J105
    · refine x_bipush (v := (-2)) dX5_fit_87 (by decide) ?_
      rw [if_neg hx0, if_pos hx1, if_neg hc_84] at hQ
      exact x_iret dX5_fit_89 rfl hQ
  · rw [if_neg hx0, if_neg hx1]
    show xV _ _ _ _ _ _ _ _ _ _ _ _ _
    refine x_astore_nN dX5_fit_8 (by decide) rfl ?_
    refine x_aload_nN dX5_fit_9 rfl ?_
    refine x_ifnonnullN dX5_fit_10 ?_
    refine x_iconst (v := (-1)) dX5_fit_13 (by decide) ?_
    rw [if_neg hx0, if_neg hx1] at hQ
    exact x_iret dX5_fit_14 rfl hQ
def LX5_dgI (p : xPv) (n : Int32) (U : Nat → Nat → Int32) (N : Nat) (I : Nat → xSi) (V : Nat → Nat → Nat → Int32) (r : Nat) : Nat → Nat → Int64 → Int64
  | 0, _, a => a
  | n9 + 1, j, a => LX5_dgI p n U N I V r n9 (j + 1) ((31 : Int64) * a + (FX5_signOf p n U N I V (nI j) (nI r)).toInt64)
def LX5_dgO (p : xPv) (n : Int32) (U : Nat → Nat → Int32) (N : Nat) (I : Nat → xSi) (V : Nat → Nat → Nat → Int32) (w : Nat) : Nat → Nat → Int64 → Int64
  | 0, _, a => a
  | n9 + 1, r, a => LX5_dgO p n U N I V w n9 (r + 1) (LX5_dgI p n U N I V r w 0 a)
def FX5_digest (p : xPv) (n : Int32) (U : Nat → Nat → Int32) (N : Nat) (I : Nat → xSi) (V : Nat → Nat → Nat → Int32) (w g : Nat) : Int64 := LX5_dgO p n U N I V w g 0 7
set_option maxHeartbeats 4000000 in
set_option maxRecDepth 100000 in
theorem kX5_digestT {G : xG} {l : Launch} {d : Nat} {h : xH} {Q : Option Value → xH → Prop} {sc pg sx sy al ed : Nat} {C : Nat → Nat} {B : Nat → Nat → Nat} {p : xPv} {n : Int32} {U : Nat → Nat → Int32} {md : Int32} {N : Nat} {I : Nat → xSi} {V : Nat → Nat → Nat → Int32} {cw rh : Nat} (hK : xCls G sc pg sx sy al ed C B p n U md N I V h) (hn20 : n ≤ 20) (hp1 : p.1 = nI cw) (hp2 : p.2.1 = nI rh) (hp3 : cw < 100) (hp4 : rh < 100) (hQ : Q (some (.long (FX5_digest p n U N I V cw rh))) h) : xV G l mX5_digest (d + 6) 0 0 0 0 10 [.ref sc, .long 7, xU, .int (nI 0), xU] [] h Q := by
  have inner : ∀ (r n9 j : Nat) (a : Int64), j + n9 = cw → xV G l mX5_digest (d + 6) 0 0 0 0 57 [.ref sc, .long (LX5_dgI p n U N I V r n9 j a), xU, .int (nI r), xU] [] h Q → xV G l mX5_digest (d + 6) 0 0 0 0 24 [.ref sc, .long a, xU, .int (nI r), .int (nI j)] [] h Q := by
    intro r n9
    induction n9 with
    | zero =>
      intro j a hj hk
      rw [LX5_dgI] at hk
      refine x_iload dX5_digest_24 rfl ?_
      refine x_aload_n dX5_digest_26 rfl ?_
      refine x_get 0 dX5_digest_27 hK.1 rfl (by decide) (by decide +kernel) rfl ?_
      refine x_get 0 dX5_digest_30 hK.2.1.1 rfl (by decide) (by decide +kernel) rfl ?_
      refine x_icmp_ge (tgt := 57) dX5_digest_33 (by decide) (fun _ => ?_) (fun z9 => absurd (by rw [hp1]; exact nI_le (by omega) (by omega)) z9)
      refine xV.sub (L' := [.ref sc, .long a, xU, .int (nI r), xU]) ⟨Or.inr rfl, Or.inr rfl, Or.inl rfl, Or.inr rfl, Or.inl rfl, trivial⟩ hk
    | succ n9 ih =>
      intro j a hj hk
      rw [LX5_dgI] at hk
      refine x_iload dX5_digest_24 rfl ?_
      refine x_aload_n dX5_digest_26 rfl ?_
      refine x_get 0 dX5_digest_27 hK.1 rfl (by decide) (by decide +kernel) rfl ?_
      refine x_get 0 dX5_digest_30 hK.2.1.1 rfl (by decide) (by decide +kernel) rfl ?_
      refine x_icmp_ge (tgt := 57) dX5_digest_33 (by decide) (fun z9 => absurd z9 (by rw [hp1]; exact nI_ge (by omega) (by omega))) (fun _ => ?_)
      refine x_ldc2 (v := 31) dX5_digest_36 (by decide +kernel) ?_
      refine x_lload_n dX5_digest_39 rfl ?_
      refine x_lmul dX5_digest_40 ?_
      refine x_aload_n dX5_digest_41 rfl ?_
      refine x_iload dX5_digest_42 rfl ?_
      refine x_iload_n dX5_digest_44 rfl ?_
      refine x_callV (M' := mX5_signOf) (mc' := 0) (ms' := 0) (As := [.int (nI j), .int (nI r)]) dX5_digest_45 gX5_digest_X5_signOf okX5_signOf rfl rfl hK.1 rfl (Nat.le_of_ble_eq_true rfl) (Nat.le_of_ble_eq_true rfl) (Nat.le_refl _) (Nat.le_refl _) (Nat.le_refl _) ?_
      refine kX5_signOf hK hn20 ?_
      show xV _ _ _ _ _ _ _ _ _ _ _ _ _
      refine x_i2l dX5_digest_48 ?_
      refine x_ladd dX5_digest_49 ?_
      refine x_lstore_n dX5_digest_50 (by decide) rfl ?_
      refine x_iinc (v := 1) dX5_digest_51 rfl (by decide) (by decide) rfl ?_
      refine x_goto (tgt := 24) dX5_digest_54 (by decide) ?_
      refine xV.sub (L' := [.ref sc, .long (((31 : Int64) * a) + (Int32.toInt64 (FX5_signOf p n U N I V (nI j) (nI r)))), xU, .int (nI r), .int (nI (j + 1))]) ⟨Or.inr rfl, Or.inr rfl, Or.inl rfl, Or.inr rfl, Or.inr (congrArg Value.int (nI_1 j)), trivial⟩ (ih (j + 1) _ (by omega) hk)
  have outer : ∀ (n9 r : Nat) (a : Int64), r + n9 = rh → Q (some (.long (LX5_dgO p n U N I V cw n9 r a))) h → xV G l mX5_digest (d + 6) 0 0 0 0 10 [.ref sc, .long a, xU, .int (nI r), xU] [] h Q := by
    intro n9
    induction n9 with
    | zero =>
      intro r a hr hQ
      rw [LX5_dgO] at hQ
      refine x_iload_n dX5_digest_10 rfl ?_
      refine x_aload_n dX5_digest_11 rfl ?_
      refine x_get 0 dX5_digest_12 hK.1 rfl (by decide) (by decide +kernel) rfl ?_
      refine x_get 1 dX5_digest_15 hK.2.1.1 rfl (by decide) (by decide +kernel) rfl ?_
      refine x_icmp_ge (tgt := 63) dX5_digest_18 (by decide) (fun _ => ?_) (fun z9 => absurd (by rw [hp2]; exact nI_le (by omega) (by omega)) z9)
      refine x_lload_n dX5_digest_63 rfl ?_
      exact x_lret dX5_digest_64 rfl hQ
    | succ n9 ih =>
      intro r a hr hQ
      rw [LX5_dgO] at hQ
      refine x_iload_n dX5_digest_10 rfl ?_
      refine x_aload_n dX5_digest_11 rfl ?_
      refine x_get 0 dX5_digest_12 hK.1 rfl (by decide) (by decide +kernel) rfl ?_
      refine x_get 1 dX5_digest_15 hK.2.1.1 rfl (by decide) (by decide +kernel) rfl ?_
      refine x_icmp_ge (tgt := 63) dX5_digest_18 (by decide) (fun z9 => absurd z9 (by rw [hp2]; exact nI_ge (by omega) (by omega))) (fun _ => ?_)
      refine x_iconst (v := 0) dX5_digest_21 (by decide) ?_
      refine x_istore dX5_digest_22 (by decide) rfl ?_
      refine xV.sub (L' := [.ref sc, .long a, xU, .int (nI r), .int (nI 0)]) ⟨Or.inr rfl, Or.inr rfl, Or.inl rfl, Or.inr rfl, Or.inr (congrArg Value.int nI_0.symm), trivial⟩ (inner r cw 0 a (by omega) ?_)
      refine x_iinc (v := 1) dX5_digest_57 rfl (by decide) (by decide) rfl ?_
      refine x_goto (tgt := 10) dX5_digest_60 (by decide) ?_
      refine xV.sub (L' := [.ref sc, .long (LX5_dgI p n U N I V r cw 0 a), xU, .int (nI (r + 1)), xU]) ⟨Or.inr rfl, Or.inr rfl, Or.inl rfl, Or.inr (congrArg Value.int (nI_1 r)), Or.inl rfl, trivial⟩ (ih (r + 1) _ (by omega) hQ)
  exact outer rh 0 7 (by omega) hQ
set_option maxHeartbeats 4000000 in
set_option maxRecDepth 100000 in
theorem kX5_digest {G : xG} {l : Launch} {d : Nat} {h : xH} {Q : Option Value → xH → Prop} {sc pg sx sy al ed : Nat} {C : Nat → Nat} {B : Nat → Nat → Nat} {p : xPv} {n : Int32} {U : Nat → Nat → Int32} {md : Int32} {N : Nat} {I : Nat → xSi} {V : Nat → Nat → Nat → Int32} {cw rh : Nat} (hK : xCls G sc pg sx sy al ed C B p n U md N I V h) (hD : xDs sc pg sx sy al ed C B) (hz : ∀ k, k < N → (I k).2.2.2.1 ≤ 24) (hok : ∀ k, k < N → ∀ j : Nat, j < ((I k).2.2.2.1).toNatClampNeg → ¬ FX3_isSeen p (I k) (V k) (nI j) = 0 → drOk p (I k) (V k) (nI j)) (hfr : ∀ k, k < N → (I k).2.2.2.2 = 0 → FX3_draw p (I k) (V k) = (V k 6, V k 7)) {I9 : Nat → xSi} {V9 : Nat → Nat → Nat → Int32} (eI : I9 = fun k => st0 (I k)) (eV : V9 = fun k => fV p (I k) (V k)) (hn20 : n ≤ 20) (hp1 : p.1 = nI cw) (hp2 : p.2.1 = nI rh) (hp3 : cw < 100) (hp4 : rh < 100) (hQ : ∀ h', xCls G sc pg sx sy al ed C B p n U md N I9 V9 h' → xfrC B h h' → Q (some (.long (FX5_digest p n U N I9 V9 cw rh))) h') : xV G l mX5_digest (d + 6) 0 0 0 0 0 [.ref sc, xU, xU, xU, xU] [] h Q := by
  refine x_aload_n dX5_digest_0 rfl ?_
  refine x_callV (M' := mX5_drawStale) (mc' := 0) (ms' := 0) (As := []) dX5_digest_1 gX5_digest_X5_drawStale okX5_drawStale rfl rfl hK.1 rfl (Nat.le_of_ble_eq_true rfl) (Nat.le_of_ble_eq_true rfl) (Nat.le_refl _) (Nat.le_refl _) (Nat.le_refl _) ?_
  refine kX5_drawStale hK hD hz hok hfr (fun h1 hK1 hF1 => ?_)
  rw [← eI, ← eV] at hK1
  clear hK
  have hK := hK1
  show xV _ _ _ _ _ _ _ _ _ _ _ _ _
  refine x_ldc2 (v := 7) dX5_digest_4 (by decide +kernel) ?_
  refine x_lstore_n dX5_digest_7 (by decide) rfl ?_
  refine x_iconst (v := 0) dX5_digest_8 (by decide) ?_
  refine x_istore_n dX5_digest_9 (by decide) rfl ?_
  refine xV.sub (L' := [.ref sc, .long 7, xU, .int (nI 0), xU]) ⟨Or.inr rfl, Or.inr rfl, Or.inl rfl, Or.inr (congrArg Value.int nI_0.symm), Or.inl rfl, trivial⟩ (kX5_digestT hK hn20 hp1 hp2 hp3 hp4 (hQ _ hK1 hF1))
