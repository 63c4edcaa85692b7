def addI (I : xSi) : xSi := (I.1, I.2.1, I.2.2.1, I.2.2.2.1 + 1, 1)
def addV (I : xSi) (V : Nat → Nat → Int32) (g a b q : Int32) : Nat → Nat → Int32 := va_up (va_up (va_up (va_up V 4 (upd (V 4) (Int32.toNatClampNeg I.2.2.2.1) g)) 1 (upd (V 1) (Int32.toNatClampNeg I.2.2.2.1) a)) 2 (upd (V 2) (Int32.toNatClampNeg I.2.2.2.1) b)) 3 (upd (V 3) (Int32.toNatClampNeg I.2.2.2.1) q)
theorem addS {G : xG} {pg : Nat} {B : Nat → Nat} {I : xSi} {V : Nat → Nat → Int32} {h : xH} {g a b q : Int32} (hS : xSer G B pg I V h) (hB : ∀ {i j : Nat}, i ≠ j → B i ≠ B j) : xSer G B pg (addI I) (addV I V g a b q) (xup (xup (xup (xup (xup h (B 4) (xRz G 24 (upd (V 4) (Int32.toNatClampNeg I.2.2.2.1) g))) (B 1) (xRi G 24 (upd (V 1) (Int32.toNatClampNeg I.2.2.2.1) a))) (B 2) (xRi G 24 (upd (V 2) (Int32.toNatClampNeg I.2.2.2.1) b))) (B 3) (xRi G 24 (upd (V 3) (Int32.toNatClampNeg I.2.2.2.1) q))) (B 0) (xSo B pg (addI I))) := by
  obtain ⟨s0, s1, s2, s3, s4, s5, s6, s7⟩ := hS
  have n := fun (i j : Nat) (e : i ≠ j) => hB e
  exact ⟨xup_s,
    xup_k (n 1 0 (by decide)) (xup_k (n 1 3 (by decide)) (xup_k (n 1 2 (by decide)) xup_s)),
    xup_k (n 2 0 (by decide)) (xup_k (n 2 3 (by decide)) xup_s),
    xup_k (n 3 0 (by decide)) xup_s,
    xup_k (n 4 0 (by decide)) (xup_k (n 4 3 (by decide)) (xup_k (n 4 2 (by decide)) (xup_k (n 4 1 (by decide)) xup_s))),
    xup_k (n 5 0 (by decide)) (xup_k (n 5 3 (by decide)) (xup_k (n 5 2 (by decide)) (xup_k (n 5 1 (by decide)) (xup_k (n 5 4 (by decide)) s5)))),
    xup_k (n 6 0 (by decide)) (xup_k (n 6 3 (by decide)) (xup_k (n 6 2 (by decide)) (xup_k (n 6 1 (by decide)) (xup_k (n 6 4 (by decide)) s6)))),
    xup_k (n 7 0 (by decide)) (xup_k (n 7 3 (by decide)) (xup_k (n 7 2 (by decide)) (xup_k (n 7 1 (by decide)) (xup_k (n 7 4 (by decide)) s7))))⟩
theorem addF {B : Nat → Nat} {h : xH} {c0 c1 c2 c3 c4 : va_E} {a : Nat} (ha : ∀ i, a ≠ B i) : xup (xup (xup (xup (xup h (B 4) c4) (B 1) c1) (B 2) c2) (B 3) c3) (B 0) c0 a = h a := by
  rw [xup_n (ha 0), xup_n (ha 3), xup_n (ha 2), xup_n (ha 1), xup_n (ha 4)]
set_option maxHeartbeats 4000000 in
set_option maxRecDepth 100000 in
theorem kX5_pointJ {G : xG} {l : Launch} {d : Nat} {h : xH} {Q : Option Value → xH → Prop} {sc pg sx sy al ed : Nat} {C : Nat → Nat} {B : Nat → Nat → Nat} {p : xPv} {n : Int32} {U : Nat → Nat → Int32} {md : Int32} {N : Nat} {I : Nat → xSi} {V : Nat → Nat → Nat → Int32} {j : Nat} {a b q : Int32} (hK : xCls G sc pg sx sy al ed C B p n U md N I V h) (hD : xDs sc pg sx sy al ed C B) (hj : j < N) (h0 : ∀ k, k < N → 0 ≤ (I k).2.2.2.1) (hQ : (if FX5_within a (-1000000) 1000000 = 0 then Q (some (.int (-1))) h else (if FX5_within b (-1000000) 1000000 = 0 then Q (some (.int (-1))) h else (if FX5_within q 0 1000000 = 0 then Q (some (.int (-1))) h else (if (I j).2.2.2.1 < 24 then (∀ h', xCls G sc pg sx sy al ed C B p n U md N (va_up I j (addI (I j))) (va_up V j (addV (I j) (V j) 0 a b q)) h' → xfrK sc pg sx sy al ed C B h h' → Q (some (.int ((I j).2.2.2.1 + 1 - 1))) h') else Q (some (.int (-3))) h))))) : xV G l mX5_point (d + 4) 0 0 0 0 0 [.ref sc, .int (nI j), .int a, .int b, .int q, xU] [] h Q := by
  refine x_aload_n dX5_point_0 rfl ?_
  refine x_iload_n dX5_point_1 rfl ?_
  refine x_callV (M' := mX5_seriesOf) (mc' := 0) (ms' := 0) (As := [.int (nI j)]) dX5_point_2 gX5_point_X5_seriesOf okX5_seriesOf rfl rfl hK.1 rfl (Nat.le_of_ble_eq_true rfl) (Nat.le_of_ble_eq_true rfl) (Nat.le_refl _) (Nat.le_refl _) (Nat.le_refl _) ?_
  refine kX5_seriesOf hK hj ?_
  show xV _ _ _ _ _ _ _ _ _ _ _ _ _
  refine x_astore dX5_point_5 (by decide) rfl ?_
  refine x_aload dX5_point_7 rfl ?_
  refine x_ifnull dX5_point_9 ?_
  refine x_iload_n dX5_point_12 rfl ?_
  refine x_ldc (v := (-1000000)) dX5_point_13 (by decide +kernel) ?_
  refine x_ldc (v := 1000000) dX5_point_15 (by decide +kernel) ?_
  refine x_callS (M' := mX5_within) (mc' := 0) (ms' := 0) (As := [.int a, .int (-1000000 : Int32), .int (1000000 : Int32)]) dX5_point_17 gX5_point_X5_within okX5_within rfl rfl (Nat.le_of_ble_eq_true rfl) (Nat.le_of_ble_eq_true rfl) (Nat.le_refl _) (Nat.le_refl _) (Nat.le_refl _) ?_
  refine kX5_within  ?_
  show xV _ _ _ _ _ _ _ _ _ _ _ _ _
  refine x_if_eq (tgt := 45) dX5_point_20 (by decide) (fun hc_20 => ?_) (fun hc_20 => ?_)
  · refine x_iconst (v := (-1)) dX5_point_45 (by decide) ?_
    exact x_iret dX5_point_46 rfl (by rw [if_pos hc_20] at hQ; exact hQ)
  · refine x_iload_n dX5_point_23 rfl ?_
    refine x_ldc (v := (-1000000)) dX5_point_24 (by decide +kernel) ?_
    refine x_ldc (v := 1000000) dX5_point_26 (by decide +kernel) ?_
    refine x_callS (M' := mX5_within) (mc' := 0) (ms' := 0) (As := [.int b, .int (-1000000 : Int32), .int (1000000 : Int32)]) dX5_point_28 gX5_point_X5_within okX5_within rfl rfl (Nat.le_of_ble_eq_true rfl) (Nat.le_of_ble_eq_true rfl) (Nat.le_refl _) (Nat.le_refl _) (Nat.le_refl _) ?_
    refine kX5_within  ?_
    show xV _ _ _ _ _ _ _ _ _ _ _ _ _
    refine x_if_eq (tgt := 45) dX5_point_31 (by decide) (fun hc_31 => ?_) (fun hc_31 => ?_)
    · refine x_iconst (v := (-1)) dX5_point_45 (by decide) ?_
      exact x_iret dX5_point_46 rfl (by rw [if_neg hc_20, if_pos hc_31] at hQ; exact hQ)
    · refine x_iload dX5_point_34 rfl ?_
      refine x_iconst (v := 0) dX5_point_36 (by decide) ?_
      refine x_ldc (v := 1000000) dX5_point_37 (by decide +kernel) ?_
      refine x_callS (M' := mX5_within) (mc' := 0) (ms' := 0) (As := [.int q, .int (0 : Int32), .int (1000000 : Int32)]) dX5_point_39 gX5_point_X5_within okX5_within rfl rfl (Nat.le_of_ble_eq_true rfl) (Nat.le_of_ble_eq_true rfl) (Nat.le_refl _) (Nat.le_refl _) (Nat.le_refl _) ?_
      refine kX5_within  ?_
      show xV _ _ _ _ _ _ _ _ _ _ _ _ _
      refine x_if_ne (tgt := 47) dX5_point_42 (by decide) (fun hc_42 => ?_) (fun hc_42 => ?_)
      · refine x_aload dX5_point_47 rfl ?_
        refine x_iconst (v := 0) dX5_point_49 (by decide) ?_
        refine x_iload_n dX5_point_50 rfl ?_
        refine x_iload_n dX5_point_51 rfl ?_
        refine x_iload dX5_point_52 rfl ?_
        refine x_callV (M' := mX3_add) (mc' := 0) (ms' := 0) (As := [.int (0 : Int32), .int a, .int b, .int q]) dX5_point_54 gX5_point_X3_add okX3_add rfl rfl (hK.2.2.2.2.2.1 j hj).1 rfl (Nat.le_of_ble_eq_true rfl) (Nat.le_of_ble_eq_true rfl) (Nat.le_refl _) (Nat.le_refl _) (Nat.le_refl _) ?_
        refine kX3_add (hK.2.2.2.2.2.1 j hj) (hD.b j) (h0 _ hj) (Or.inl rfl) ?_
        rw [if_neg hc_20, if_neg hc_31, if_neg hc_42] at hQ
        by_cases h24 : (I j).2.2.2.1 < 24
        · rw [if_pos h24]
          rw [if_pos h24] at hQ
          show xV _ _ _ _ _ _ _ _ _ _ _ _ _
          exact x_iret dX5_point_57 rfl (hQ _ (hK.ser hD (j := j) (fun a9 ha => addF ha) (addS (hK.2.2.2.2.2.1 j hj) (hD.b j))) (fun a9 eB _ _ _ _ _ _ _ => addF (fun i => eB j i)))
        · rw [if_neg h24]
          rw [if_neg h24] at hQ
          show xV _ _ _ _ _ _ _ _ _ _ _ _ _
          exact x_iret dX5_point_57 rfl hQ
      · refine x_iconst (v := (-1)) dX5_point_45 (by decide) ?_
        exact x_iret dX5_point_46 rfl (by rw [if_neg hc_20, if_neg hc_31, if_pos hc_42] at hQ; exact hQ)
set_option maxHeartbeats 4000000 in
set_option maxRecDepth 100000 in
theorem kX5_gapJ {G : xG} {l : Launch} {d : Nat} {h : xH} {Q : Option Value → xH → Prop} {sc pg sx sy al ed : Nat} {C : Nat → Nat} {B : Nat → Nat → Nat} {p : xPv} {n : Int32} {U : Nat → Nat → Int32} {md : Int32} {N : Nat} {I : Nat → xSi} {V : Nat → Nat → Nat → Int32} {j : Nat} (hK : xCls G sc pg sx sy al ed C B p n U md N I V h) (hD : xDs sc pg sx sy al ed C B) (hj : j < N) (h0 : ∀ k, k < N → 0 ≤ (I k).2.2.2.1) (hQ : (if (I j).2.2.2.1 < 24 then (∀ h', xCls G sc pg sx sy al ed C B p n U md N (va_up I j (addI (I j))) (va_up V j (addV (I j) (V j) 1 0 0 0)) h' → xfrK sc pg sx sy al ed C B h h' → Q (some (.int ((I j).2.2.2.1 + 1 - 1))) h') else Q (some (.int (-3))) h)) : xV G l mX5_gap (d + 4) 0 0 0 0 0 [.ref sc, .int (nI j), xU] [] h Q := by
  refine x_aload_n dX5_gap_0 rfl ?_
  refine x_iload_n dX5_gap_1 rfl ?_
  refine x_callV (M' := mX5_seriesOf) (mc' := 0) (ms' := 0) (As := [.int (nI j)]) dX5_gap_2 gX5_gap_X5_seriesOf okX5_seriesOf rfl rfl hK.1 rfl (Nat.le_of_ble_eq_true rfl) (Nat.le_of_ble_eq_true rfl) (Nat.le_refl _) (Nat.le_refl _) (Nat.le_refl _) ?_
  refine kX5_seriesOf hK hj ?_
  show xV _ _ _ _ _ _ _ _ _ _ _ _ _
  refine x_astore_n dX5_gap_5 (by decide) rfl ?_
  refine x_aload_n dX5_gap_6 rfl ?_
  refine x_ifnonnull (tgt := 14) dX5_gap_7 (by decide) ?_
  refine x_aload_n dX5_gap_14 rfl ?_
  refine x_iconst (v := 1) dX5_gap_15 (by decide) ?_
  refine x_iconst (v := 0) dX5_gap_16 (by decide) ?_
  refine x_iconst (v := 0) dX5_gap_17 (by decide) ?_
  refine x_iconst (v := 0) dX5_gap_18 (by decide) ?_
  refine x_callV (M' := mX3_add) (mc' := 0) (ms' := 0) (As := [.int (1 : Int32), .int (0 : Int32), .int (0 : Int32), .int (0 : Int32)]) dX5_gap_19 gX5_gap_X3_add okX3_add rfl rfl (hK.2.2.2.2.2.1 j hj).1 rfl (Nat.le_of_ble_eq_true rfl) (Nat.le_of_ble_eq_true rfl) (Nat.le_refl _) (Nat.le_refl _) (Nat.le_refl _) ?_
  refine kX3_add (hK.2.2.2.2.2.1 j hj) (hD.b j) (h0 _ hj) (Or.inr rfl) ?_
  by_cases h24 : (I j).2.2.2.1 < 24
  · rw [if_pos h24]
    rw [if_pos h24] at hQ
    show xV _ _ _ _ _ _ _ _ _ _ _ _ _
    exact x_iret dX5_gap_22 rfl (hQ _ (hK.ser hD (j := j) (fun a9 ha => addF ha) (addS (hK.2.2.2.2.2.1 j hj) (hD.b j))) (fun a9 eB _ _ _ _ _ _ _ => addF (fun i => eB j i)))
  · rw [if_neg h24]
    rw [if_neg h24] at hQ
    show xV _ _ _ _ _ _ _ _ _ _ _ _ _
    exact x_iret dX5_gap_22 rfl hQ
/-- a label is put at place m of the labels' rows from place i -/
def lbMv (U : Nat → Nat → Int32) (m i : Nat) : Nat → Nat → Int32 := va_up (va_up (va_up (va_up (va_up U 1 (upd (U 1) m (U 1 i))) 2 (upd (U 2) m (U 2 i))) 3 (upd (U 3) m (U 3 i))) 4 (upd (U 4) m (U 4 i))) 5 (upd (U 5) m (U 5 i))
/-- from place j on, n9 more to look at, m are kept so far -/
def LX0_rm (s q : Int32) : Nat → Nat → Nat → (Nat → Nat → Int32) → Nat × (Nat → Nat → Int32)
  | 0, _, m, U => (m, U)
  | n9 + 1, j, m, U => if U 4 j = s ∧ U 5 j = q then LX0_rm s q n9 (j + 1) m U else LX0_rm s q n9 (j + 1) (m + 1) (lbMv U m j)
theorem lbS {G : xG} {C : Nat → Nat} {m i : Nat} {U : Nat → Nat → Int32} {h : xH} (hL : xLab G C (nI m) U h) (hC : ∀ {i j : Nat}, i ≠ j → C i ≠ C j) : xLab G C (nI (m + 1)) (lbMv U m i) (xup (xup (xup (xup (xup (xup h (C 1) (xRi G 20 (upd (U 1) m (U 1 i)))) (C 2) (xRi G 20 (upd (U 2) m (U 2 i)))) (C 3) (xRi G 20 (upd (U 3) m (U 3 i)))) (C 4) (xRi G 20 (upd (U 4) m (U 4 i)))) (C 5) (xRi G 20 (upd (U 5) m (U 5 i)))) (C 0) (xLo C (nI (m + 1)))) := by
  have n := fun (i j : Nat) (e : i ≠ j) => hC e
  exact ⟨xup_s,
    xup_k (n 1 0 (by decide)) (xup_k (n 1 5 (by decide)) (xup_k (n 1 4 (by decide)) (xup_k (n 1 3 (by decide)) (xup_k (n 1 2 (by decide)) xup_s)))),
    xup_k (n 2 0 (by decide)) (xup_k (n 2 5 (by decide)) (xup_k (n 2 4 (by decide)) (xup_k (n 2 3 (by decide)) xup_s))),
    xup_k (n 3 0 (by decide)) (xup_k (n 3 5 (by decide)) (xup_k (n 3 4 (by decide)) xup_s)),
    xup_k (n 4 0 (by decide)) (xup_k (n 4 5 (by decide)) xup_s),
    xup_k (n 5 0 (by decide)) xup_s⟩
theorem lbF {C : Nat → Nat} {h : xH} {c0 c1 c2 c3 c4 c5 : va_E} {a : Nat} (ha : ∀ i, a ≠ C i) : xup (xup (xup (xup (xup (xup h (C 1) c1) (C 2) c2) (C 3) c3) (C 4) c4) (C 5) c5) (C 0) c0 a = h a := by
  rw [xup_n (ha 0), xup_n (ha 5), xup_n (ha 4), xup_n (ha 3), xup_n (ha 2), xup_n (ha 1)]
set_option maxHeartbeats 4000000 in
set_option maxRecDepth 100000 in
theorem kX0_removeThoseAt {G : xG} {l : Launch} {d : Nat} {h : xH} {Q : Option Value → xH → Prop} {C : Nat → Nat} {N : Nat} {U : Nat → Nat → Int32} {s q : Int32} (hL : xLab G C (nI N) U h) (hC : ∀ {i j : Nat}, i ≠ j → C i ≠ C j) (hN : N ≤ 20) (hQ : ∀ h', xLab G C (nI (LX0_rm s q N 0 0 U).1) (LX0_rm s q N 0 0 U).2 h' → (∀ a, (∀ i, a ≠ C i) → h' a = h a) → Q none h') : xV G l mX0_removeThoseAt (d + 1) 0 0 0 0 0 [.ref (C 0), .int s, .int q, xU, xU] [] h Q := by
  have loop : ∀ (n9 j m : Nat) (U9 : Nat → Nat → Int32) (h1 : xH), j + n9 = N → m ≤ j → LX0_rm s q n9 j m U9 = (LX0_rm s q N 0 0 U) → xLab G C (nI m) U9 h1 → (∀ a, (∀ i, a ≠ C i) → h1 a = h a) → xV G l mX0_removeThoseAt (d + 1) 0 0 0 0 13 [.ref (C 0), .int s, .int q, .int (nI N), .int (nI j)] [] h1 Q := by
    clear hL
    intro n9
    induction n9 with
    | zero =>
      intro j m U9 h1 hj hm hf hL hF
      refine x_iload dX0_removeThoseAt_13 rfl ?_
      refine x_iload_n dX0_removeThoseAt_15 rfl ?_
      refine x_icmp_ge (tgt := 86) dX0_removeThoseAt_16 (by decide) (fun _ => ?_) (fun z9 => absurd (nI_le (a := N) (b := j) (by omega) (by omega)) z9)
      rw [LX0_rm] at hf
      exact x_vret dX0_removeThoseAt_86 rfl (hQ h1 (by rw [← hf]; exact hL) hF)
    | succ n9 ih =>
      intro j m U9 h1 hj hm hf hL hF
      refine x_iload dX0_removeThoseAt_13 rfl ?_
      refine x_iload_n dX0_removeThoseAt_15 rfl ?_
      refine x_icmp_ge (tgt := 86) dX0_removeThoseAt_16 (by decide) (fun z9 => absurd z9 (nI_ge (a := j) (b := N) (by omega) (by omega))) (fun _ => ?_)
      rw [LX0_rm] at hf
      refine x_aload_n dX0_removeThoseAt_19 rfl ?_
      refine x_get 4 dX0_removeThoseAt_20 hL.1 rfl (by decide) (by decide +kernel) rfl ?_
      refine x_iload dX0_removeThoseAt_23 rfl ?_
      refine x_iald dX0_removeThoseAt_25 hL.2.2.2.2.1 (vp_in_nI (by omega) (by decide)) ?_
      refine x_iload_n dX0_removeThoseAt_26 rfl ?_
      refine x_icmp_ne (tgt := 41) dX0_removeThoseAt_27 (by decide) (fun hc_27 => ?_) (fun hc_27 => ?_)
      · refine x_aload_n dX0_removeThoseAt_41 rfl ?_
        refine x_aload_n dX0_removeThoseAt_42 rfl ?_
        refine x_get 1 dX0_removeThoseAt_43 hL.1 rfl (by decide) (by decide +kernel) rfl ?_
        refine x_iload dX0_removeThoseAt_46 rfl ?_
        refine x_iald dX0_removeThoseAt_48 hL.2.1 (vp_in_nI (by omega) (by decide)) ?_
        refine x_aload_n dX0_removeThoseAt_49 rfl ?_
        refine x_get 2 dX0_removeThoseAt_50 hL.1 rfl (by decide) (by decide +kernel) rfl ?_
        refine x_iload dX0_removeThoseAt_53 rfl ?_
        refine x_iald dX0_removeThoseAt_55 hL.2.2.1 (vp_in_nI (by omega) (by decide)) ?_
        refine x_aload_n dX0_removeThoseAt_56 rfl ?_
        refine x_get 3 dX0_removeThoseAt_57 hL.1 rfl (by decide) (by decide +kernel) rfl ?_
        refine x_iload dX0_removeThoseAt_60 rfl ?_
        refine x_iald dX0_removeThoseAt_62 hL.2.2.2.1 (vp_in_nI (by omega) (by decide)) ?_
        refine x_aload_n dX0_removeThoseAt_63 rfl ?_
        refine x_get 4 dX0_removeThoseAt_64 hL.1 rfl (by decide) (by decide +kernel) rfl ?_
        refine x_iload dX0_removeThoseAt_67 rfl ?_
        refine x_iald dX0_removeThoseAt_69 hL.2.2.2.2.1 (vp_in_nI (by omega) (by decide)) ?_
        refine x_aload_n dX0_removeThoseAt_70 rfl ?_
        refine x_get 5 dX0_removeThoseAt_71 hL.1 rfl (by decide) (by decide +kernel) rfl ?_
        refine x_iload dX0_removeThoseAt_74 rfl ?_
        refine x_iald dX0_removeThoseAt_76 hL.2.2.2.2.2 (vp_in_nI (by omega) (by decide)) ?_
        refine x_callV (M' := mX0_add) (mc' := 0) (ms' := 0) (As := [.int ((U9 1) (Int32.toNatClampNeg (nI j))), .int ((U9 2) (Int32.toNatClampNeg (nI j))), .int ((U9 3) (Int32.toNatClampNeg (nI j))), .int ((U9 4) (Int32.toNatClampNeg (nI j))), .int ((U9 5) (Int32.toNatClampNeg (nI j)))]) dX0_removeThoseAt_77 gX0_removeThoseAt_X0_add okX0_add rfl rfl hL.1 rfl (Nat.le_of_ble_eq_true rfl) (Nat.le_of_ble_eq_true rfl) (Nat.le_refl _) (Nat.le_refl _) (Nat.le_refl _) ?_
        refine kX0_add hL hC (nI_pos' (by omega)) ?_
        rw [if_pos (show nI m < (20 : Int32) from nI_lt (a := m) (b := 20) (by omega) (by decide))]
        simp only [nI_clamp (show j < 2 ^ 31 by omega), nI_clamp (show m < 2 ^ 31 by omega), nI_1]
        show xV _ _ _ _ _ _ _ _ _ _ _ _ _
        show xV _ _ _ _ _ _ _ _ _ _ _ _ _
        refine x_iinc (v := 1) dX0_removeThoseAt_80 rfl (by decide) (by decide) rfl ?_
        refine x_goto (tgt := 13) dX0_removeThoseAt_83 (by decide) ?_
        simp only [nI_clamp (show j < 2 ^ 31 by omega)] at hc_27
        refine xV.sub (L' := [.ref (C 0), .int s, .int q, .int (nI N), .int (nI (j + 1))]) ⟨Or.inr rfl, Or.inr rfl, Or.inr rfl, Or.inr rfl, Or.inr (congrArg Value.int (nI_1 j)), trivial⟩ (ih (j + 1) (m + 1) (lbMv U9 m j) _ (by omega) (by omega) (by rw [if_neg (fun z => hc_27 z.1)] at hf; exact hf) (lbS hL hC) (fun a9 ha => (lbF ha).trans (hF a9 ha)))
      · refine x_aload_n dX0_removeThoseAt_30 rfl ?_
        refine x_get 5 dX0_removeThoseAt_31 hL.1 rfl (by decide) (by decide +kernel) rfl ?_
        refine x_iload dX0_removeThoseAt_34 rfl ?_
        refine x_iald dX0_removeThoseAt_36 hL.2.2.2.2.2 (vp_in_nI (by omega) (by decide)) ?_
        refine x_iload_n dX0_removeThoseAt_37 rfl ?_
        refine x_icmp_eq (tgt := 80) dX0_removeThoseAt_38 (by decide) (fun hc_38 => ?_) (fun hc_38 => ?_)
        · refine x_iinc (v := 1) dX0_removeThoseAt_80 rfl (by decide) (by decide) rfl ?_
          refine x_goto (tgt := 13) dX0_removeThoseAt_83 (by decide) ?_
          simp only [nI_clamp (show j < 2 ^ 31 by omega)] at hc_27 hc_38
          refine xV.sub (L' := [.ref (C 0), .int s, .int q, .int (nI N), .int (nI (j + 1))]) ⟨Or.inr rfl, Or.inr rfl, Or.inr rfl, Or.inr rfl, Or.inr (congrArg Value.int (nI_1 j)), trivial⟩ (ih (j + 1) m U9 h1 (by omega) (by omega) (by rw [if_pos ⟨hc_27, hc_38⟩] at hf; exact hf) hL hF)
        · refine x_aload_n dX0_removeThoseAt_41 rfl ?_
          refine x_aload_n dX0_removeThoseAt_42 rfl ?_
          refine x_get 1 dX0_removeThoseAt_43 hL.1 rfl (by decide) (by decide +kernel) rfl ?_
          refine x_iload dX0_removeThoseAt_46 rfl ?_
          refine x_iald dX0_removeThoseAt_48 hL.2.1 (vp_in_nI (by omega) (by decide)) ?_
          refine x_aload_n dX0_removeThoseAt_49 rfl ?_
          refine x_get 2 dX0_removeThoseAt_50 hL.1 rfl (by decide) (by decide +kernel) rfl ?_
          refine x_iload dX0_removeThoseAt_53 rfl ?_
          refine x_iald dX0_removeThoseAt_55 hL.2.2.1 (vp_in_nI (by omega) (by decide)) ?_
          refine x_aload_n dX0_removeThoseAt_56 rfl ?_
          refine x_get 3 dX0_removeThoseAt_57 hL.1 rfl (by decide) (by decide +kernel) rfl ?_
          refine x_iload dX0_removeThoseAt_60 rfl ?_
          refine x_iald dX0_removeThoseAt_62 hL.2.2.2.1 (vp_in_nI (by omega) (by decide)) ?_
          refine x_aload_n dX0_removeThoseAt_63 rfl ?_
          refine x_get 4 dX0_removeThoseAt_64 hL.1 rfl (by decide) (by decide +kernel) rfl ?_
          refine x_iload dX0_removeThoseAt_67 rfl ?_
          refine x_iald dX0_removeThoseAt_69 hL.2.2.2.2.1 (vp_in_nI (by omega) (by decide)) ?_
          refine x_aload_n dX0_removeThoseAt_70 rfl ?_
          refine x_get 5 dX0_removeThoseAt_71 hL.1 rfl (by decide) (by decide +kernel) rfl ?_
          refine x_iload dX0_removeThoseAt_74 rfl ?_
          refine x_iald dX0_removeThoseAt_76 hL.2.2.2.2.2 (vp_in_nI (by omega) (by decide)) ?_
          refine x_callV (M' := mX0_add) (mc' := 0) (ms' := 0) (As := [.int ((U9 1) (Int32.toNatClampNeg (nI j))), .int ((U9 2) (Int32.toNatClampNeg (nI j))), .int ((U9 3) (Int32.toNatClampNeg (nI j))), .int ((U9 4) (Int32.toNatClampNeg (nI j))), .int ((U9 5) (Int32.toNatClampNeg (nI j)))]) dX0_removeThoseAt_77 gX0_removeThoseAt_X0_add okX0_add rfl rfl hL.1 rfl (Nat.le_of_ble_eq_true rfl) (Nat.le_of_ble_eq_true rfl) (Nat.le_refl _) (Nat.le_refl _) (Nat.le_refl _) ?_
          refine kX0_add hL hC (nI_pos' (by omega)) ?_
          rw [if_pos (show nI m < (20 : Int32) from nI_lt (a := m) (b := 20) (by omega) (by decide))]
          simp only [nI_clamp (show j < 2 ^ 31 by omega), nI_clamp (show m < 2 ^ 31 by omega), nI_1]
          show xV _ _ _ _ _ _ _ _ _ _ _ _ _
          show xV _ _ _ _ _ _ _ _ _ _ _ _ _
          refine x_iinc (v := 1) dX0_removeThoseAt_80 rfl (by decide) (by decide) rfl ?_
          refine x_goto (tgt := 13) dX0_removeThoseAt_83 (by decide) ?_
          simp only [nI_clamp (show j < 2 ^ 31 by omega)] at hc_27 hc_38
          refine xV.sub (L' := [.ref (C 0), .int s, .int q, .int (nI N), .int (nI (j + 1))]) ⟨Or.inr rfl, Or.inr rfl, Or.inr rfl, Or.inr rfl, Or.inr (congrArg Value.int (nI_1 j)), trivial⟩ (ih (j + 1) (m + 1) (lbMv U9 m j) _ (by omega) (by omega) (by rw [if_neg (fun z => hc_38 z.2)] at hf; exact hf) (lbS hL hC) (fun a9 ha => (lbF ha).trans (hF a9 ha)))
  refine x_aload_n dX0_removeThoseAt_0 rfl ?_
  refine x_get 0 dX0_removeThoseAt_1 hL.1 rfl (by decide) (by decide +kernel) rfl ?_
  refine x_istore_n dX0_removeThoseAt_4 (by decide) rfl ?_
  refine x_aload_n dX0_removeThoseAt_5 rfl ?_
  refine x_iconst (v := 0) dX0_removeThoseAt_6 (by decide) ?_
  refine x_put 0 dX0_removeThoseAt_7 hL.1 rfl (by decide) (by decide +kernel) rfl rfl rfl rfl (Nat.le_of_ble_eq_true rfl) ?_
  refine x_iconst (v := 0) dX0_removeThoseAt_10 (by decide) ?_
  refine x_istore dX0_removeThoseAt_11 (by decide) rfl ?_
  refine xV.sub (L' := [.ref (C 0), .int s, .int q, .int (nI N), .int (nI 0)]) ⟨Or.inr rfl, Or.inr rfl, Or.inr rfl, Or.inr rfl, Or.inr (congrArg Value.int nI_0.symm), trivial⟩ (loop N 0 0 U _ (by omega) (by omega) rfl ⟨xup_s, xup_k (hC (by decide)) hL.2.1, xup_k (hC (by decide)) hL.2.2.1, xup_k (hC (by decide)) hL.2.2.2.1, xup_k (hC (by decide)) hL.2.2.2.2.1, xup_k (hC (by decide)) hL.2.2.2.2.2⟩ (fun a9 ha => xup_n (ha 0)))
