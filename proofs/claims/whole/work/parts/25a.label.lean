/-- the first of the places k, k + 1, .. that is free -/
def labW (p : xPv) (n : Int32) (U : Nat → Nat → Int32) (N : Nat) (I : Nat → xSi) (V : Nat → Nat → Nat → Int32) (cl rw : Int32) (ql : Nat) : Nat → Nat → Option Nat
  | 0, _ => none
  | n9 + 1, k => if FX5_isFree p n U N I V (FX5_firstColumn (nI k) cl (nI ql)) (FX5_labelRow (nI k) rw) ql = 0 then labW p n U N I V cl rw ql n9 (k + 1) else some k
/-- a label more -/
def lbAd (U : Nat → Nat → Int32) (n a b q s t : Int32) : Nat → Nat → Int32 := va_up (va_up (va_up (va_up (va_up U 1 (upd (U 1) (Int32.toNatClampNeg n) a)) 2 (upd (U 2) (Int32.toNatClampNeg n) b)) 3 (upd (U 3) (Int32.toNatClampNeg n) q)) 4 (upd (U 4) (Int32.toNatClampNeg n) s)) 5 (upd (U 5) (Int32.toNatClampNeg n) t)
theorem lbA {G : xG} {C : Nat → Nat} {n a b q s t : Int32} {U : Nat → Nat → Int32} {h : xH} (hL : xLab G C n U h) (hC : ∀ {i j : Nat}, i ≠ j → C i ≠ C j) : xLab G C (n + 1) (lbAd U n a b q s t) (xup (xup (xup (xup (xup (xup h (C 1) (xRi G 20 (upd (U 1) (Int32.toNatClampNeg n) a))) (C 2) (xRi G 20 (upd (U 2) (Int32.toNatClampNeg n) b))) (C 3) (xRi G 20 (upd (U 3) (Int32.toNatClampNeg n) q))) (C 4) (xRi G 20 (upd (U 4) (Int32.toNatClampNeg n) s))) (C 5) (xRi G 20 (upd (U 5) (Int32.toNatClampNeg n) t))) (C 0) (xLo C (n + 1))) := by
  have z := fun (i j : Nat) (e : i ≠ j) => hC e
  exact ⟨xup_s,
    xup_k (z 1 0 (by decide)) (xup_k (z 1 5 (by decide)) (xup_k (z 1 4 (by decide)) (xup_k (z 1 3 (by decide)) (xup_k (z 1 2 (by decide)) xup_s)))),
    xup_k (z 2 0 (by decide)) (xup_k (z 2 5 (by decide)) (xup_k (z 2 4 (by decide)) (xup_k (z 2 3 (by decide)) xup_s))),
    xup_k (z 3 0 (by decide)) (xup_k (z 3 5 (by decide)) (xup_k (z 3 4 (by decide)) xup_s)),
    xup_k (z 4 0 (by decide)) (xup_k (z 4 5 (by decide)) xup_s),
    xup_k (z 5 0 (by decide)) xup_s⟩
set_option maxHeartbeats 4000000 in
set_option maxRecDepth 100000 in
theorem kX5_labelT {G : xG} {l : Launch} {d : Nat} {h : xH} {Q : Option Value → xH → Prop} {sc pg sx sy al ed : Nat} {C : Nat → Nat} {B : Nat → Nat → Nat} {p : xPv} {n : Int32} {U : Nat → Nat → Int32} {md : Int32} {N : Nat} {I : Nat → xSi} {V : Nat → Nat → Nat → Int32} {cw rh ql j sr : Nat} {q cl rw : Int32} (hK : xCls G sc pg sx sy al ed C B p n U md N I V h) (hD : xDs sc pg sx sy al ed C B) (hn20 : n ≤ 20) (hn0 : 0 ≤ n) (hlt : n < 20) (hp1 : p.1 = nI cw) (hp2 : p.2.1 = nI rh) (hp3 : cw < 100) (hp4 : rh < 100) (hql : ql < 100) (hQn : (labW p n U N I V cl rw ql 4 0) = none → Q (some (.int (-9))) h) (hQs : ∀ k, (labW p n U N I V cl rw ql 4 0) = some k → ∀ h', xCls G sc pg sx sy al ed C B p (n + 1) (lbAd U n (FX5_firstColumn (nI k) cl (nI ql)) (FX5_labelRow (nI k) rw) (nI ql) (nI j) q) md N I V h' → xfrK sc pg sx sy al ed C B h h' → Q (some (.int (nI k))) h') : xV G l mX5_label (d + 7) 0 0 0 0 97 [.ref sc, .int (nI j), .int q, .int (nI ql), .ref sr, .int cl, .int rw, .int (nI 0), xU, xU] [] h Q := by
  have loop : ∀ (n9 k : Nat), k + n9 = 4 → labW p n U N I V cl rw ql n9 k = (labW p n U N I V cl rw ql 4 0) → xV G l mX5_label (d + 7) 0 0 0 0 97 [.ref sc, .int (nI j), .int q, .int (nI ql), .ref sr, .int cl, .int rw, .int (nI k), xU, xU] [] h Q := by
    intro n9
    induction n9 with
    | zero =>
      intro k hk hf
      rw [labW] at hf
      have hf := hf.symm
      refine x_iload dX5_label_97 rfl ?_
      refine x_iconst (v := 3) dX5_label_99 (by decide) ?_
      refine x_icmp_gt (tgt := 157) dX5_label_100 (by decide) (fun _ => ?_) (fun z9 => absurd (nI_lt (a := 3) (b := k) (by omega) (by omega)) z9)
      refine x_bipush (v := (-9)) dX5_label_157 (by decide) ?_
      exact x_iret dX5_label_159 rfl (hQn hf)
    | succ n9 ih =>
      intro k hk hf
      rw [labW] at hf
      refine x_iload dX5_label_97 rfl ?_
      refine x_iconst (v := 3) dX5_label_99 (by decide) ?_
      refine x_icmp_gt (tgt := 157) dX5_label_100 (by decide) (fun z9 => absurd z9 (nI_nlt (a := 3) (b := k) (by omega) (by omega))) (fun _ => ?_)
      refine x_iload dX5_label_103 rfl ?_
      refine x_iload dX5_label_105 rfl ?_
      refine x_iload_n dX5_label_107 rfl ?_
      refine x_callS (M' := mX5_firstColumn) (mc' := 0) (ms' := 0) (As := [.int (nI k), .int cl, .int (nI ql)]) dX5_label_108 gX5_label_X5_firstColumn okX5_firstColumn rfl rfl (Nat.le_of_ble_eq_true rfl) (Nat.le_of_ble_eq_true rfl) (Nat.le_refl _) (Nat.le_refl _) (Nat.le_refl _) ?_
      refine kX5_firstColumn  ?_
      show xV _ _ _ _ _ _ _ _ _ _ _ _ _
      refine x_istore dX5_label_111 (by decide) rfl ?_
      refine x_iload dX5_label_113 rfl ?_
      refine x_iload dX5_label_115 rfl ?_
      refine x_callS (M' := mX5_labelRow) (mc' := 0) (ms' := 0) (As := [.int (nI k), .int rw]) dX5_label_117 gX5_label_X5_labelRow okX5_labelRow rfl rfl (Nat.le_of_ble_eq_true rfl) (Nat.le_of_ble_eq_true rfl) (Nat.le_refl _) (Nat.le_refl _) (Nat.le_refl _) ?_
      refine kX5_labelRow  ?_
      show xV _ _ _ _ _ _ _ _ _ _ _ _ _
      refine x_istore dX5_label_120 (by decide) rfl ?_
      refine x_aload_n dX5_label_122 rfl ?_
      refine x_iload dX5_label_123 rfl ?_
      refine x_iload dX5_label_125 rfl ?_
      refine x_iload_n dX5_label_127 rfl ?_
      refine x_callV (M' := mX5_isFree) (mc' := 0) (ms' := 0) (As := [.int (FX5_firstColumn (nI k) cl (nI ql)), .int (FX5_labelRow (nI k) rw), .int (nI ql)]) dX5_label_128 gX5_label_X5_isFree okX5_isFree rfl rfl hK.1 rfl (Nat.le_of_ble_eq_true rfl) (Nat.le_of_ble_eq_true rfl) (Nat.le_refl _) (Nat.le_refl _) (Nat.le_refl _) ?_
      refine kX5_isFree hK hn20 hp1 hp2 hp3 hp4 hql ?_
      show xV _ _ _ _ _ _ _ _ _ _ _ _ _
      refine x_if_eq (tgt := 151) dX5_label_131 (by decide) (fun hc_131 => ?_) (fun hc_131 => ?_)
      · rw [if_pos hc_131] at hf
        refine x_iinc (v := 1) dX5_label_151 rfl (by decide) (by decide) rfl ?_
        refine x_goto (tgt := 97) dX5_label_154 (by decide) ?_
        refine xV.sub (L' := [.ref sc, .int (nI j), .int q, .int (nI ql), .ref sr, .int cl, .int rw, .int (nI (k + 1)), xU, xU]) ⟨Or.inr rfl, Or.inr rfl, Or.inr rfl, Or.inr rfl, Or.inr rfl, Or.inr rfl, Or.inr rfl, Or.inr (congrArg Value.int (nI_1 k)), Or.inl rfl, Or.inl rfl, trivial⟩ (ih (k + 1) (by omega) hf)
      · rw [if_neg hc_131] at hf
        refine x_aload_n dX5_label_134 rfl ?_
        refine x_get 2 dX5_label_135 hK.1 rfl (by decide) (by decide +kernel) rfl ?_
        refine x_iload dX5_label_138 rfl ?_
        refine x_iload dX5_label_140 rfl ?_
        refine x_iload_n dX5_label_142 rfl ?_
        refine x_iload_n dX5_label_143 rfl ?_
        refine x_iload_n dX5_label_144 rfl ?_
        refine x_callV (M' := mX0_add) (mc' := 0) (ms' := 0) (As := [.int (FX5_firstColumn (nI k) cl (nI ql)), .int (FX5_labelRow (nI k) rw), .int (nI ql), .int (nI j), .int q]) dX5_label_145 gX5_label_X0_add okX0_add rfl rfl hK.2.2.1.1 rfl (Nat.le_of_ble_eq_true rfl) (Nat.le_of_ble_eq_true rfl) (Nat.le_refl _) (Nat.le_refl _) (Nat.le_refl _) ?_
        refine kX0_add hK.2.2.1 hD.2.2.2.1 hn0 ?_
        rw [if_pos hlt]
        show xV _ _ _ _ _ _ _ _ _ _ _ _ _
        refine x_iload dX5_label_148 rfl ?_
        exact x_iret dX5_label_150 rfl (hQs k hf.symm _ (hK.lab hD (fun a9 ha => lbF ha) (lbA hK.2.2.1 hD.2.2.2.1)) (fun a9 _ eC _ _ _ _ _ _ => lbF eC))
  exact loop 4 0 rfl rfl
set_option maxHeartbeats 4000000 in
set_option maxRecDepth 100000 in
theorem kX5_labelJ {G : xG} {l : Launch} {d : Nat} {h : xH} {Q : Option Value → xH → Prop} {sc pg sx sy al ed : Nat} {C : Nat → Nat} {B : Nat → Nat → Nat} {p : xPv} {n : Int32} {U : Nat → Nat → Int32} {md : Int32} {N : Nat} {I : Nat → xSi} {V : Nat → Nat → Nat → Int32} {cw rh ql j : Nat} {q : Int32} (hK : xCls G sc pg sx sy al ed C B p n U md N I V h) (hD : xDs sc pg sx sy al ed C B) (hz : ∀ k, k < N → (I k).2.2.2.1 ≤ 24) (hok : ∀ k, k < N → ∀ j : Nat, j < ((I k).2.2.2.1).toNatClampNeg → ¬ FX3_isSeen p (I k) (V k) (nI j) = 0 → drOk p (I k) (V k) (nI j)) (hfr : ∀ k, k < N → (I k).2.2.2.2 = 0 → FX3_draw p (I k) (V k) = (V k 6, V k 7)) {I9 : Nat → xSi} {V9 : Nat → Nat → Nat → Int32} (eI : I9 = fun k => st0 (I k)) (eV : V9 = fun k => fV p (I k) (V k)) (hn20 : n ≤ 20) (hj : j < N) (hn0 : 0 ≤ n) (hp1 : p.1 = nI cw) (hp2 : p.2.1 = nI rh) (hp3 : cw < 100) (hp4 : rh < 100) (hql : ql < 100) (hQ : (if FX3_has (I j) (V j) q = 0 then Q (some (.int (-1))) h else (if FX5_within (nI ql) 1 10 = 0 then Q (some (.int (-1))) h else (if FX3_isSeen p (I j) (V j) q = 0 then Q (some (.int (-2))) h else (if n < 20 then (((labW p n U N I9 V9 (FX1_columnOf p (FX3_dotAcross p (I9 j) (V9 j) q)) (FX1_rowOf p (FX3_dotUpwards p (I9 j) (V9 j) q)) ql 4 0) = none → ∀ h', xCls G sc pg sx sy al ed C B p n U md N I9 V9 h' → xfrC B h h' → Q (some (.int (-9))) h') ∧ ∀ k, (labW p n U N I9 V9 (FX1_columnOf p (FX3_dotAcross p (I9 j) (V9 j) q)) (FX1_rowOf p (FX3_dotUpwards p (I9 j) (V9 j) q)) ql 4 0) = some k → ∀ h', xCls G sc pg sx sy al ed C B p (n + 1) (lbAd U n (FX5_firstColumn (nI k) (FX1_columnOf p (FX3_dotAcross p (I9 j) (V9 j) q)) (nI ql)) (FX5_labelRow (nI k) (FX1_rowOf p (FX3_dotUpwards p (I9 j) (V9 j) q))) (nI ql) (nI j) q) md N I9 V9 h' → xfrK sc pg sx sy al ed C B h h' → Q (some (.int (nI k))) h') else Q (some (.int (-3))) h))))) : xV G l mX5_label (d + 7) 0 0 0 0 0 [.ref sc, .int (nI j), .int q, .int (nI ql), xU, xU, xU, xU, xU, xU] [] h Q := by
  refine x_aload_n dX5_label_0 rfl ?_
  refine x_iload_n dX5_label_1 rfl ?_
  refine x_callV (M' := mX5_seriesOf) (mc' := 0) (ms' := 0) (As := [.int (nI j)]) dX5_label_2 gX5_label_X5_seriesOf okX5_seriesOf rfl rfl hK.1 rfl (Nat.le_of_ble_eq_true rfl) (Nat.le_of_ble_eq_true rfl) (Nat.le_refl _) (Nat.le_refl _) (Nat.le_refl _) ?_
  refine kX5_seriesOf hK hj ?_
  show xV _ _ _ _ _ _ _ _ _ _ _ _ _
  refine x_astore dX5_label_5 (by decide) rfl ?_
  refine x_aload dX5_label_7 rfl ?_
  refine x_ifnull dX5_label_9 ?_
  refine x_aload dX5_label_12 rfl ?_
  refine x_iload_n dX5_label_14 rfl ?_
  refine x_callV (M' := mX3_has) (mc' := 0) (ms' := 0) (As := [.int q]) dX5_label_15 gX5_label_X3_has okX3_has rfl rfl (hK.2.2.2.2.2.1 j hj).1 rfl (Nat.le_of_ble_eq_true rfl) (Nat.le_of_ble_eq_true rfl) (Nat.le_refl _) (Nat.le_refl _) (Nat.le_refl _) ?_
  refine kX3_has (hK.2.2.2.2.2.1 j hj) ?_
  show xV _ _ _ _ _ _ _ _ _ _ _ _ _
  refine x_if_eq (tgt := 31) dX5_label_18 (by decide) (fun hc_18 => ?_) (fun hc_18 => ?_)
  · refine x_iconst (v := (-1)) dX5_label_31 (by decide) ?_
    exact x_iret dX5_label_32 rfl (by rw [if_pos hc_18] at hQ; exact hQ)
  · refine x_iload_n dX5_label_21 rfl ?_
    refine x_iconst (v := 1) dX5_label_22 (by decide) ?_
    refine x_bipush (v := 10) dX5_label_23 (by decide) ?_
    refine x_callS (M' := mX5_within) (mc' := 0) (ms' := 0) (As := [.int (nI ql), .int (1 : Int32), .int (10 : Int32)]) dX5_label_25 gX5_label_X5_within okX5_within rfl rfl (Nat.le_of_ble_eq_true rfl) (Nat.le_of_ble_eq_true rfl) (Nat.le_refl _) (Nat.le_refl _) (Nat.le_refl _) ?_
    refine kX5_within  ?_
    show xV _ _ _ _ _ _ _ _ _ _ _ _ _
    refine x_if_ne (tgt := 33) dX5_label_28 (by decide) (fun hc_28 => ?_) (fun hc_28 => ?_)
    · refine x_aload dX5_label_33 rfl ?_
      refine x_iload_n dX5_label_35 rfl ?_
      refine x_callV (M' := mX3_isSeen) (mc' := 0) (ms' := 0) (As := [.int q]) dX5_label_36 gX5_label_X3_isSeen okX3_isSeen rfl rfl (hK.2.2.2.2.2.1 j hj).1 rfl (Nat.le_of_ble_eq_true rfl) (Nat.le_of_ble_eq_true rfl) (Nat.le_refl _) (Nat.le_refl _) (Nat.le_refl _) ?_
      refine kX3_isSeen hK.2.1 (hK.2.2.2.2.2.1 j hj) (hz _ hj) ?_
      show xV _ _ _ _ _ _ _ _ _ _ _ _ _
      refine x_if_ne (tgt := 45) dX5_label_39 (by decide) (fun hc_39 => ?_) (fun hc_39 => ?_)
      · refine x_aload_n dX5_label_45 rfl ?_
        refine x_get 2 dX5_label_46 hK.1 rfl (by decide) (by decide +kernel) rfl ?_
        refine x_get 0 dX5_label_49 hK.2.2.1.1 rfl (by decide) (by decide +kernel) rfl ?_
        refine x_bipush (v := 20) dX5_label_52 (by decide) ?_
        refine x_icmp_lt (tgt := 60) dX5_label_54 (by decide) (fun hc_54 => ?_) (fun hc_54 => ?_)
        · refine x_aload_n dX5_label_60 rfl ?_
          refine x_callV (M' := mX5_drawStale) (mc' := 0) (ms' := 0) (As := []) dX5_label_61 gX5_label_X5_drawStale okX5_drawStale rfl rfl hK.1 rfl (Nat.le_of_ble_eq_true rfl) (Nat.le_of_ble_eq_true rfl) (Nat.le_refl _) (Nat.le_refl _) (Nat.le_refl _) ?_
          refine kX5_drawStale hK hD hz hok hfr (fun h1 hK1 hF1 => ?_)
          rw [← eI, ← eV] at hK1
          clear hK
          have hK := hK1
          show xV _ _ _ _ _ _ _ _ _ _ _ _ _
          refine x_aload_n dX5_label_64 rfl ?_
          refine x_get 0 dX5_label_65 hK.1 rfl (by decide) (by decide +kernel) rfl ?_
          refine x_aload dX5_label_68 rfl ?_
          refine x_iload_n dX5_label_70 rfl ?_
          refine x_callV (M' := mX3_dotAcross) (mc' := 0) (ms' := 0) (As := [.int q]) dX5_label_71 gX5_label_X3_dotAcross okX3_dotAcross rfl rfl (hK.2.2.2.2.2.1 j hj).1 rfl (Nat.le_of_ble_eq_true rfl) (Nat.le_of_ble_eq_true rfl) (Nat.le_refl _) (Nat.le_refl _) (Nat.le_refl _) ?_
          refine kX3_dotAcross hK.2.1 (hK.2.2.2.2.2.1 j hj) (by rw [eI]; exact hz _ hj) ?_
          show xV _ _ _ _ _ _ _ _ _ _ _ _ _
          refine x_callV (M' := mX1_columnOf) (mc' := 0) (ms' := 0) (As := [.int (FX3_dotAcross p (I9 j) (V9 j) q)]) dX5_label_74 gX5_label_X1_columnOf okX1_columnOf rfl rfl hK.2.1.1 rfl (Nat.le_of_ble_eq_true rfl) (Nat.le_of_ble_eq_true rfl) (Nat.le_refl _) (Nat.le_refl _) (Nat.le_refl _) ?_
          refine kX1_columnOf hK.2.1 ?_
          show xV _ _ _ _ _ _ _ _ _ _ _ _ _
          refine x_istore dX5_label_77 (by decide) rfl ?_
          refine x_aload_n dX5_label_79 rfl ?_
          refine x_get 0 dX5_label_80 hK.1 rfl (by decide) (by decide +kernel) rfl ?_
          refine x_aload dX5_label_83 rfl ?_
          refine x_iload_n dX5_label_85 rfl ?_
          refine x_callV (M' := mX3_dotUpwards) (mc' := 0) (ms' := 0) (As := [.int q]) dX5_label_86 gX5_label_X3_dotUpwards okX3_dotUpwards rfl rfl (hK.2.2.2.2.2.1 j hj).1 rfl (Nat.le_of_ble_eq_true rfl) (Nat.le_of_ble_eq_true rfl) (Nat.le_refl _) (Nat.le_refl _) (Nat.le_refl _) ?_
          refine kX3_dotUpwards hK.2.1 (hK.2.2.2.2.2.1 j hj) (by rw [eI]; exact hz _ hj) ?_
          show xV _ _ _ _ _ _ _ _ _ _ _ _ _
          refine x_callV (M' := mX1_rowOf) (mc' := 0) (ms' := 0) (As := [.int (FX3_dotUpwards p (I9 j) (V9 j) q)]) dX5_label_89 gX5_label_X1_rowOf okX1_rowOf rfl rfl hK.2.1.1 rfl (Nat.le_of_ble_eq_true rfl) (Nat.le_of_ble_eq_true rfl) (Nat.le_refl _) (Nat.le_refl _) (Nat.le_refl _) ?_
          refine kX1_rowOf hK.2.1 ?_
          show xV _ _ _ _ _ _ _ _ _ _ _ _ _
          refine x_istore dX5_label_92 (by decide) rfl ?_
          refine x_iconst (v := 0) dX5_label_94 (by decide) ?_
          refine x_istore dX5_label_95 (by decide) rfl ?_
          rw [if_neg hc_18, if_neg hc_28, if_neg hc_39, if_pos hc_54] at hQ
          refine xV.sub (L' := [.ref sc, .int (nI j), .int q, .int (nI ql), .ref (B j 0), .int (FX1_columnOf p (FX3_dotAcross p (I9 j) (V9 j) q)), .int (FX1_rowOf p (FX3_dotUpwards p (I9 j) (V9 j) q)), .int (nI 0), xU, xU]) ⟨Or.inr rfl, Or.inr rfl, Or.inr rfl, Or.inr rfl, Or.inr rfl, Or.inr rfl, Or.inr rfl, Or.inr (congrArg Value.int nI_0.symm), Or.inl rfl, Or.inl rfl, trivial⟩ (kX5_labelT hK hD hn20 hn0 hc_54 hp1 hp2 hp3 hp4 hql (fun z => hQ.1 z _ hK1 hF1) (fun k z h' hz' hf' => hQ.2 k z h' hz' (fun a9 eB eC e1 e2 e3 e4 e5 e6 => (hf' a9 eB eC e1 e2 e3 e4 e5 e6).trans (hF1 a9 eB))))
        · refine x_bipush (v := (-3)) dX5_label_57 (by decide) ?_
          exact x_iret dX5_label_59 rfl (by rw [if_neg hc_18, if_neg hc_28, if_neg hc_39, if_neg hc_54] at hQ; exact hQ)
      · refine x_bipush (v := (-2)) dX5_label_42 (by decide) ?_
        exact x_iret dX5_label_44 rfl (by rw [if_neg hc_18, if_neg hc_28, if_pos hc_39] at hQ; exact hQ)
    · refine x_iconst (v := (-1)) dX5_label_31 (by decide) ?_
      exact x_iret dX5_label_32 rfl (by rw [if_neg hc_18, if_pos hc_28] at hQ; exact hQ)
