set_option maxHeartbeats 4000000 in
set_option maxRecDepth 100000 in
theorem kX5_labelN {G : xG} {l : Launch} {d : Nat} {h : xH} {Q : Option Value → xH → Prop} {sc pg sx sy al ed : Nat} {C : Nat → Nat} {B : Nat → Nat → Nat} {p : xPv} {n : Int32} {U : Nat → Nat → Int32} {md : Int32} {N : Nat} {I : Nat → xSi} {V : Nat → Nat → Nat → Int32} {s q ln : Int32} (hK : xCls G sc pg sx sy al ed C B p n U md N I V h) (hs : s < 0 ∨ nI N ≤ s) (hQ : Q (some (.int (-1))) h) : xV G l mX5_label (d + 4) 0 0 0 0 0 [.ref sc, .int s, .int q, .int ln, xU, xU, xU, xU, xU, xU] [] h Q := by
  refine x_aload_n dX5_label_0 rfl ?_
  refine x_iload_n dX5_label_1 rfl ?_
  refine x_callV (M' := mX5_seriesOf) (mc' := 0) (ms' := 0) (As := [.int s]) dX5_label_2 gX5_label_X5_seriesOf okX5_seriesOf rfl rfl hK.1 rfl (Nat.le_of_ble_eq_true rfl) (Nat.le_of_ble_eq_true rfl) (Nat.le_refl _) (Nat.le_refl _) (Nat.le_refl _) ?_
  refine kX5_seriesOfN hK hs ?_
  show xV _ _ _ _ _ _ _ _ _ _ _ _ _
  refine x_astoreN dX5_label_5 (by decide) rfl ?_
  refine x_aloadN dX5_label_7 rfl ?_
  refine x_ifnullN (tgt := 31) dX5_label_9 (by decide) ?_
  refine x_iconst (v := (-1)) dX5_label_31 (by decide) ?_
  exact x_iret dX5_label_32 rfl hQ
set_option maxHeartbeats 4000000 in
set_option maxRecDepth 100000 in
theorem kX5_labelB {G : xG} {l : Launch} {d : Nat} {h : xH} {Q : Option Value → xH → Prop} {sc pg sx sy al ed : Nat} {C : Nat → Nat} {B : Nat → Nat → Nat} {p : xPv} {n : Int32} {U : Nat → Nat → Int32} {md : Int32} {N : Nat} {I : Nat → xSi} {V : Nat → Nat → Nat → Int32} {j : Nat} {q ln : Int32} (hK : xCls G sc pg sx sy al ed C B p n U md N I V h) (hj : j < N) (hln : FX5_within ln 1 10 = 0) (hQ : Q (some (.int (-1))) h) : xV G l mX5_label (d + 4) 0 0 0 0 0 [.ref sc, .int (nI j), .int q, .int ln, xU, xU, xU, xU, xU, xU] [] h Q := by
  refine x_aload_n dX5_label_0 rfl ?_
  refine x_iload_n dX5_label_1 rfl ?_
  refine x_callV (M' := mX5_seriesOf) (mc' := 0) (ms' := 0) (As := [.int (nI j)]) dX5_label_2 gX5_label_X5_seriesOf okX5_seriesOf rfl rfl hK.1 rfl (Nat.le_of_ble_eq_true rfl) (Nat.le_of_ble_eq_true rfl) (Nat.le_refl _) (Nat.le_refl _) (Nat.le_refl _) ?_
  refine kX5_seriesOf hK hj ?_
  show xV _ _ _ _ _ _ _ _ _ _ _ _ _
  refine x_astore dX5_label_5 (by decide) rfl ?_
  refine x_aload dX5_label_7 rfl ?_
  refine x_ifnull dX5_label_9 ?_
  refine x_aload dX5_label_12 rfl ?_
  refine x_iload_n dX5_label_14 rfl ?_
  refine x_callV (M' := mX3_has) (mc' := 0) (ms' := 0) (As := [.int q]) dX5_label_15 gX5_label_X3_has okX3_has rfl rfl (hK.2.2.2.2.2.1 j hj).1 rfl (Nat.le_of_ble_eq_true rfl) (Nat.le_of_ble_eq_true rfl) (Nat.le_refl _) (Nat.le_refl _) (Nat.le_refl _) ?_
  refine kX3_has (hK.2.2.2.2.2.1 j hj) ?_
  show xV _ _ _ _ _ _ _ _ _ _ _ _ _
  refine x_if_eq (tgt := 31) dX5_label_18 (by decide) (fun hc_18 => ?_) (fun hc_18 => ?_)
  · refine x_iconst (v := (-1)) dX5_label_31 (by decide) ?_
    exact x_iret dX5_label_32 rfl hQ
  · refine x_iload_n dX5_label_21 rfl ?_
    refine x_iconst (v := 1) dX5_label_22 (by decide) ?_
    refine x_bipush (v := 10) dX5_label_23 (by decide) ?_
    refine x_callS (M' := mX5_within) (mc' := 0) (ms' := 0) (As := [.int ln, .int (1 : Int32), .int (10 : Int32)]) dX5_label_25 gX5_label_X5_within okX5_within rfl rfl (Nat.le_of_ble_eq_true rfl) (Nat.le_of_ble_eq_true rfl) (Nat.le_refl _) (Nat.le_refl _) (Nat.le_refl _) ?_
    refine kX5_within  ?_
    show xV _ _ _ _ _ _ _ _ _ _ _ _ _
    refine x_if_ne (tgt := 33) dX5_label_28 (by decide) (fun z9 => absurd hln z9) (fun _ => ?_)
    refine x_iconst (v := (-1)) dX5_label_31 (by decide) ?_
    exact x_iret dX5_label_32 rfl hQ
def hitI (I : Nat → xSi) (V : Nat → Nat → Nat → Int32) (q ly : Int32) : Nat → Int32 → Option Int32 × Int32
  | 0, lf => (none, lf)
  | m + 1, lf => if (I m).2.1 = ly then (if FJ6_bitCount_0f7a4 (FX4_hitsIn (V m) q) ≤ lf then hitI I V q ly m (lf - FJ6_bitCount_0f7a4 (FX4_hitsIn (V m) q)) else (some (100 * nI m + FX5_bitFromTop (FX4_hitsIn (V m) q) lf), lf)) else hitI I V q ly m lf
def hitO (N : Nat) (I : Nat → xSi) (V : Nat → Nat → Nat → Int32) (q : Int32) : Nat → Int32 → Int32
  | 0, _ => -9
  | l + 1, lf => match (hitI I V q (nI l) N lf).1 with
    | some v => v
    | none => hitO N I V q l (hitI I V q (nI l) N lf).2
def FX5_hit (N : Nat) (I : Nat → xSi) (V : Nat → Nat → Nat → Int32) (q k : Int32) : Int32 := hitO N I V q 10 k
set_option maxHeartbeats 4000000 in
set_option maxRecDepth 100000 in
theorem kX5_hitT {G : xG} {l : Launch} {d : Nat} {h : xH} {Q : Option Value → xH → Prop} {sc pg sx sy al ed : Nat} {C : Nat → Nat} {B : Nat → Nat → Nat} {p : xPv} {n : Int32} {U : Nat → Nat → Int32} {md : Int32} {N : Nat} {I : Nat → xSi} {V : Nat → Nat → Nat → Int32} {x y k q : Int32} (hK : xCls G sc pg sx sy al ed C B p n U md N I V h) (hQ : Q (some (.int (FX5_hit N I V q k))) h) : xV G l mX5_hit (d + 4) 0 0 0 0 40 [.ref sc, .int x, .int y, .int k, .int q, .int k, .int (nI 10 - 1), xU, xU, xU, xU] [] h Q := by
  have hN6 := hK.2.2.2.2.2.2
  have inner : ∀ (ly : Int32) (n9 : Nat) (lf : Int32), n9 ≤ N → (∀ v, (hitI I V q ly n9 lf).1 = some v → Q (some (.int v)) h) → ((hitI I V q ly n9 lf).1 = none → xV G l mX5_hit (d + 4) 0 0 0 0 141 [.ref sc, .int x, .int y, .int k, .int q, .int (hitI I V q ly n9 lf).2, .int ly, xU, xU, xU, xU] [] h Q) → xV G l mX5_hit (d + 4) 0 0 0 0 56 [.ref sc, .int x, .int y, .int k, .int q, .int lf, .int ly, .int (nI n9 - 1), xU, xU, xU] [] h Q := by
    intro ly n9
    induction n9 with
    | zero =>
      intro lf h9 hs hn
      rw [hitI] at hs hn
      refine x_iload dX5_hit_56 rfl ?_
      refine x_if_lt (tgt := 141) dX5_hit_58 (by decide) (fun _ => ?_) (fun z9 => absurd (by decide) z9)
      refine xV.sub (L' := [.ref sc, .int x, .int y, .int k, .int q, .int lf, .int ly, xU, xU, xU, xU]) ⟨Or.inr rfl, Or.inr rfl, Or.inr rfl, Or.inr rfl, Or.inr rfl, Or.inr rfl, Or.inr rfl, Or.inl rfl, Or.inl rfl, Or.inl rfl, Or.inl rfl, trivial⟩ (hn rfl)
    | succ n9 ih =>
      intro lf h9 hs hn
      rw [hitI] at hs hn
      refine xV.sub (L' := [.ref sc, .int x, .int y, .int k, .int q, .int lf, .int ly, .int (nI n9), xU, xU, xU]) ⟨Or.inr rfl, Or.inr rfl, Or.inr rfl, Or.inr rfl, Or.inr rfl, Or.inr rfl, Or.inr rfl, Or.inr (congrArg Value.int (nI_pred n9)), Or.inl rfl, Or.inl rfl, Or.inl rfl, trivial⟩ ?_
      refine x_iload dX5_hit_56 rfl ?_
      refine x_if_lt (tgt := 141) dX5_hit_58 (by decide) (fun z9 => absurd z9 (nI_pos (by omega))) (fun _ => ?_)
      have hj : n9 < N := by omega
      refine x_aload_n dX5_hit_61 rfl ?_
      refine x_get 1 dX5_hit_62 hK.1 rfl (by decide) (by decide +kernel) rfl ?_
      refine x_iload dX5_hit_65 rfl ?_
      refine x_callV (M' := mJx4a65c_get_915e3) (mc' := 0) (ms' := 0) (As := [.int (nI n9)]) dX5_hit_67 gX5_hit_Jx4a65c_get_915e3 okJx4a65c_get_915e3 rfl rfl hK.2.2.2.1 rfl (Nat.le_of_ble_eq_true rfl) (Nat.le_of_ble_eq_true rfl) (Nat.le_refl _) (Nat.le_refl _) (Nat.le_refl _) ?_
      refine kJx4a65c_get_915e3 (j := n9) hK.2.2.2.1 (hK.2.2.2.2.1 (by omega)) hj hK.2.2.2.2.2.2 ?_
      show xV _ _ _ _ _ _ _ _ _ _ _ _ _
      refine x_cast dX5_hit_70 (hK.2.2.2.2.2.1 n9 hj).1 rfl (by decide +kernel) ?_
      refine x_astore dX5_hit_73 (by decide) rfl ?_
      refine x_aload dX5_hit_75 rfl ?_
      refine x_get 1 dX5_hit_77 (hK.2.2.2.2.2.1 n9 hj).1 rfl (by decide) (by decide +kernel) rfl ?_
      refine x_iload dX5_hit_80 rfl ?_
      refine x_icmp_eq (tgt := 88) dX5_hit_82 (by decide) (fun hc_82 => ?_) (fun hc_82 => ?_)
      · refine x_aload dX5_hit_88 rfl ?_
        refine x_get 10 dX5_hit_90 (hK.2.2.2.2.2.1 n9 hj).1 rfl (by decide) (by decide +kernel) rfl ?_
        refine x_iload dX5_hit_93 rfl ?_
        refine x_callV (M' := mX4_hitsIn) (mc' := 0) (ms' := 0) (As := [.int q]) dX5_hit_95 gX5_hit_X4_hitsIn okX4_hitsIn rfl rfl (hK.2.2.2.2.2.1 n9 hj).2.2.2.2.2.1 rfl (Nat.le_of_ble_eq_true rfl) (Nat.le_of_ble_eq_true rfl) (Nat.le_refl _) (Nat.le_refl _) (Nat.le_refl _) ?_
        refine kX4_hitsIn (hK.2.2.2.2.2.1 n9 hj) ?_
        show xV _ _ _ _ _ _ _ _ _ _ _ _ _
        refine x_istore dX5_hit_98 (by decide) rfl ?_
        refine x_iload dX5_hit_100 rfl ?_
        refine x_callS (M' := mJ6_bitCount_0f7a4) (mc' := 0) (ms' := 0) (As := [.int (FX4_hitsIn (V n9) q)]) dX5_hit_102 gX5_hit_J6_bitCount_0f7a4 okJ6_bitCount_0f7a4 rfl rfl (Nat.le_of_ble_eq_true rfl) (Nat.le_of_ble_eq_true rfl) (Nat.le_refl _) (Nat.le_refl _) (Nat.le_refl _) ?_
        refine kJ6_bitCount_0f7a4  ?_
        show xV _ _ _ _ _ _ _ _ _ _ _ _ _
        refine x_istore dX5_hit_105 (by decide) rfl ?_
        refine x_iload dX5_hit_107 rfl ?_
        refine x_iload dX5_hit_109 rfl ?_
        refine x_icmp_ge (tgt := 128) dX5_hit_111 (by decide) (fun hc_111 => ?_) (fun hc_111 => ?_)
        · refine x_iload dX5_hit_128 rfl ?_
          refine x_iload dX5_hit_130 rfl ?_
          refine x_isub dX5_hit_132 ?_
          refine x_istore dX5_hit_133 (by decide) rfl ?_
          refine x_iinc (v := (-1)) dX5_hit_135 rfl (by decide) (by decide) rfl ?_
          refine x_goto (tgt := 56) dX5_hit_138 (by decide) ?_
          rw [if_pos hc_82, if_pos hc_111] at hs hn
          refine xV.sub (L' := [.ref sc, .int x, .int y, .int k, .int q, .int (lf - (FJ6_bitCount_0f7a4 (FX4_hitsIn (V n9) q))), .int ly, .int (nI n9 - 1), xU, xU, xU]) ⟨Or.inr rfl, Or.inr rfl, Or.inr rfl, Or.inr rfl, Or.inr rfl, Or.inr rfl, Or.inr rfl, Or.inr (congrArg Value.int (xneg1 n9)), Or.inl rfl, Or.inl rfl, Or.inl rfl, trivial⟩ (ih (lf - (FJ6_bitCount_0f7a4 (FX4_hitsIn (V n9) q))) (by omega) hs hn)
        · refine x_bipush (v := 100) dX5_hit_114 (by decide) ?_
          refine x_iload dX5_hit_116 rfl ?_
          refine x_imul dX5_hit_118 ?_
          refine x_iload dX5_hit_119 rfl ?_
          refine x_iload dX5_hit_121 rfl ?_
          refine x_callS (M' := mX5_bitFromTop) (mc' := 0) (ms' := 0) (As := [.int (FX4_hitsIn (V n9) q), .int lf]) dX5_hit_123 gX5_hit_X5_bitFromTop okX5_bitFromTop rfl rfl (Nat.le_of_ble_eq_true rfl) (Nat.le_of_ble_eq_true rfl) (Nat.le_refl _) (Nat.le_refl _) (Nat.le_refl _) ?_
          refine kX5_bitFromTop  ?_
          show xV _ _ _ _ _ _ _ _ _ _ _ _ _
          refine x_iadd dX5_hit_126 ?_
          rw [if_pos hc_82, if_neg hc_111] at hs
          exact x_iret dX5_hit_127 rfl (hs _ rfl)
      · refine x_goto (tgt := 135) dX5_hit_85 (by decide) ?_
        refine x_iinc (v := (-1)) dX5_hit_135 rfl (by decide) (by decide) rfl ?_
        refine x_goto (tgt := 56) dX5_hit_138 (by decide) ?_
        rw [if_neg hc_82] at hs hn
        refine xV.sub (L' := [.ref sc, .int x, .int y, .int k, .int q, .int lf, .int ly, .int (nI n9 - 1), xU, xU, xU]) ⟨Or.inr rfl, Or.inr rfl, Or.inr rfl, Or.inr rfl, Or.inr rfl, Or.inr rfl, Or.inr rfl, Or.inr (congrArg Value.int (xneg1 n9)), Or.inl rfl, Or.inl rfl, Or.inl rfl, trivial⟩ (ih lf (by omega) hs hn)
  have outer : ∀ (n8 : Nat) (lf : Int32), n8 ≤ 10 → Q (some (.int (hitO N I V q n8 lf))) h → xV G l mX5_hit (d + 4) 0 0 0 0 40 [.ref sc, .int x, .int y, .int k, .int q, .int lf, .int (nI n8 - 1), xU, xU, xU, xU] [] h Q := by
    intro n8
    induction n8 with
    | zero =>
      intro lf h9 hQ
      rw [hitO] at hQ
      refine x_iload dX5_hit_40 rfl ?_
      refine x_if_lt (tgt := 147) dX5_hit_42 (by decide) (fun _ => ?_) (fun z9 => absurd (by decide) z9)
      refine x_bipush (v := (-9)) dX5_hit_147 (by decide) ?_
      exact x_iret dX5_hit_149 rfl hQ
    | succ n8 ih =>
      intro lf h9 hQ
      rw [hitO] at hQ
      refine xV.sub (L' := [.ref sc, .int x, .int y, .int k, .int q, .int lf, .int (nI n8), xU, xU, xU, xU]) ⟨Or.inr rfl, Or.inr rfl, Or.inr rfl, Or.inr rfl, Or.inr rfl, Or.inr rfl, Or.inr (congrArg Value.int (nI_pred n8)), Or.inl rfl, Or.inl rfl, Or.inl rfl, Or.inl rfl, trivial⟩ ?_
      refine x_iload dX5_hit_40 rfl ?_
      refine x_if_lt (tgt := 147) dX5_hit_42 (by decide) (fun z9 => absurd z9 (nI_pos (by omega))) (fun _ => ?_)
      refine x_aload_n dX5_hit_45 rfl ?_
      refine x_get 1 dX5_hit_46 hK.1 rfl (by decide) (by decide +kernel) rfl ?_
      refine x_callV (M' := mJx4a65c_size_8abf5) (mc' := 0) (ms' := 0) (As := []) dX5_hit_49 gX5_hit_Jx4a65c_size_8abf5 okJx4a65c_size_8abf5 rfl rfl hK.2.2.2.1 rfl (Nat.le_of_ble_eq_true rfl) (Nat.le_of_ble_eq_true rfl) (Nat.le_refl _) (Nat.le_refl _) (Nat.le_refl _) ?_
      refine kJx4a65c_size_8abf5 hK.2.2.2.1 ?_
      show xV _ _ _ _ _ _ _ _ _ _ _ _ _
      refine x_iconst (v := 1) dX5_hit_52 (by decide) ?_
      refine x_isub dX5_hit_53 ?_
      refine x_istore dX5_hit_54 (by decide) rfl ?_
      refine xV.sub (L' := [.ref sc, .int x, .int y, .int k, .int q, .int lf, .int (nI n8), .int (nI N - 1), xU, xU, xU]) ⟨Or.inr rfl, Or.inr rfl, Or.inr rfl, Or.inr rfl, Or.inr rfl, Or.inr rfl, Or.inr rfl, Or.inr rfl, Or.inl rfl, Or.inl rfl, Or.inl rfl, trivial⟩ (inner (nI n8) N lf (Nat.le_refl _) ?_ ?_)
      · intro v hv
        rw [hv] at hQ
        exact hQ
      · intro hv
        rw [hv] at hQ
        refine x_iinc (v := (-1)) dX5_hit_141 rfl (by decide) (by decide) rfl ?_
        refine x_goto (tgt := 40) dX5_hit_144 (by decide) ?_
        refine xV.sub (L' := [.ref sc, .int x, .int y, .int k, .int q, .int (hitI I V q (nI n8) N lf).2, .int (nI n8 - 1), xU, xU, xU, xU]) ⟨Or.inr rfl, Or.inr rfl, Or.inr rfl, Or.inr rfl, Or.inr rfl, Or.inr rfl, Or.inr (congrArg Value.int (xneg1 n8)), Or.inl rfl, Or.inl rfl, Or.inl rfl, Or.inl rfl, trivial⟩ (ih _ (by omega) hQ)
  exact outer 10 k (Nat.le_refl _) hQ
set_option maxHeartbeats 4000000 in
set_option maxRecDepth 100000 in
theorem kX5_hit {G : xG} {l : Launch} {d : Nat} {h : xH} {Q : Option Value → xH → Prop} {sc pg sx sy al ed : Nat} {C : Nat → Nat} {B : Nat → Nat → Nat} {p : xPv} {n : Int32} {U : Nat → Nat → Int32} {md : Int32} {N : Nat} {I : Nat → xSi} {V : Nat → Nat → Nat → Int32} {x y k : Int32} (hK : xCls G sc pg sx sy al ed C B p n U md N I V h) (hD : xDs sc pg sx sy al ed C B) (hz : ∀ k, k < N → (I k).2.2.2.1 ≤ 24) (hok : ∀ k, k < N → ∀ j : Nat, j < ((I k).2.2.2.1).toNatClampNeg → ¬ FX3_isSeen p (I k) (V k) (nI j) = 0 → drOk p (I k) (V k) (nI j)) (hfr : ∀ k, k < N → (I k).2.2.2.2 = 0 → FX3_draw p (I k) (V k) = (V k 6, V k 7)) {I9 : Nat → xSi} {V9 : Nat → Nat → Nat → Int32} (eI : I9 = fun k => st0 (I k)) (eV : V9 = fun k => fV p (I k) (V k)) (hn20 : n ≤ 20) (hQ : (if FX1_has p x y = 0 then Q (some (.int (-1))) h else (if 0 ≤ k then (∀ h', xCls G sc pg sx sy al ed C B p n U md N I9 V9 h' → xfrC B h h' → Q (some (.int (FX5_hit N I9 V9 (FX1_cellAt p x y) k))) h') else Q (some (.int (-1))) h))) : xV G l mX5_hit (d + 6) 0 0 0 0 0 [.ref sc, .int x, .int y, .int k, xU, xU, xU, xU, xU, xU, xU] [] h Q := by
  refine x_aload_n dX5_hit_0 rfl ?_
  refine x_get 0 dX5_hit_1 hK.1 rfl (by decide) (by decide +kernel) rfl ?_
  refine x_iload_n dX5_hit_4 rfl ?_
  refine x_iload_n dX5_hit_5 rfl ?_
  refine x_callV (M' := mX1_has) (mc' := 0) (ms' := 0) (As := [.int x, .int y]) dX5_hit_6 gX5_hit_X1_has okX1_has rfl rfl hK.2.1.1 rfl (Nat.le_of_ble_eq_true rfl) (Nat.le_of_ble_eq_true rfl) (Nat.le_refl _) (Nat.le_refl _) (Nat.le_refl _) ?_
  refine kX1_has hK.2.1 ?_
  show xV _ _ _ _ _ _ _ _ _ _ _ _ _
  refine x_if_eq (tgt := 16) dX5_hit_9 (by decide) (fun hc_9 => ?_) (fun hc_9 => ?_)
  · refine x_iconst (v := (-1)) dX5_hit_16 (by decide) ?_
    rw [if_pos hc_9] at hQ
    exact x_iret dX5_hit_17 rfl hQ
  · refine x_iload_n dX5_hit_12 rfl ?_
    refine x_if_ge (tgt := 18) dX5_hit_13 (by decide) (fun hc_13 => ?_) (fun hc_13 => ?_)
    · refine x_aload_n dX5_hit_18 rfl ?_
      refine x_callV (M' := mX5_drawStale) (mc' := 0) (ms' := 0) (As := []) dX5_hit_19 gX5_hit_X5_drawStale okX5_drawStale rfl rfl hK.1 rfl (Nat.le_of_ble_eq_true rfl) (Nat.le_of_ble_eq_true rfl) (Nat.le_refl _) (Nat.le_refl _) (Nat.le_refl _) ?_
      refine kX5_drawStale hK hD hz hok hfr (fun h1 hK1 hF1 => ?_)
      rw [← eI, ← eV] at hK1
      clear hK
      have hK := hK1
      show xV _ _ _ _ _ _ _ _ _ _ _ _ _
      refine x_aload_n dX5_hit_22 rfl ?_
      refine x_get 0 dX5_hit_23 hK.1 rfl (by decide) (by decide +kernel) rfl ?_
      refine x_iload_n dX5_hit_26 rfl ?_
      refine x_iload_n dX5_hit_27 rfl ?_
      refine x_callV (M' := mX1_cellAt) (mc' := 0) (ms' := 0) (As := [.int x, .int y]) dX5_hit_28 gX5_hit_X1_cellAt okX1_cellAt rfl rfl hK.2.1.1 rfl (Nat.le_of_ble_eq_true rfl) (Nat.le_of_ble_eq_true rfl) (Nat.le_refl _) (Nat.le_refl _) (Nat.le_refl _) ?_
      refine kX1_cellAt hK.2.1 ?_
      show xV _ _ _ _ _ _ _ _ _ _ _ _ _
      refine x_istore dX5_hit_31 (by decide) rfl ?_
      refine x_iload_n dX5_hit_33 rfl ?_
      refine x_istore dX5_hit_34 (by decide) rfl ?_
      refine x_bipush (v := 9) dX5_hit_36 (by decide) ?_
      refine x_istore dX5_hit_38 (by decide) rfl ?_
      rw [if_neg hc_9, if_pos hc_13] at hQ
      refine xV.sub (L' := [.ref sc, .int x, .int y, .int k, .int (FX1_cellAt p x y), .int k, .int (nI 10 - 1), xU, xU, xU, xU]) ⟨Or.inr rfl, Or.inr rfl, Or.inr rfl, Or.inr rfl, Or.inr rfl, Or.inr rfl, Or.inr (by decide), Or.inl rfl, Or.inl rfl, Or.inl rfl, Or.inl rfl, trivial⟩ (kX5_hitT (d := d + 2) hK (hQ _ hK1 hF1))
    · refine x_iconst (v := (-1)) dX5_hit_16 (by decide) ?_
      rw [if_neg hc_9, if_neg hc_13] at hQ
      exact x_iret dX5_hit_17 rfl hQ
