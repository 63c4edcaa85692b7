theorem has_nn {p : xPv} {x y : Int32} {cw rh : Nat} (hp1 : p.1 = nI cw) (hp2 : p.2.1 = nI rh) (hp3 : cw < 100) (hp4 : rh < 100) (h : ¬ FX1_has p x y = 0) : x.toNatClampNeg < cw ∧ y.toNatClampNeg < rh ∧ x = nI x.toNatClampNeg ∧ y = nI y.toNatClampNeg := by
  unfold FX1_has at h
  split at h
  · exact absurd rfl h
  split at h
  · exact absurd rfl h
  split at h
  · exact absurd rfl h
  split at h
  · exact absurd rfl h
  rename_i h1 h2 h3 h4
  obtain ⟨a, ha, rfl⟩ := nI_of h1
  obtain ⟨b, hb, rfl⟩ := nI_of h3
  rw [nI_clamp ha, nI_clamp hb]
  rw [hp1] at h2
  rw [hp2] at h4
  rw [nI_leI (by omega) ha] at h2
  rw [nI_leI (by omega) hb] at h4
  exact ⟨by omega, by omega, rfl, rfl⟩
def FX5_isFree (p : xPv) (n : Int32) (U : Nat → Nat → Int32) (N : Nat) (I : Nat → xSi) (V : Nat → Nat → Nat → Int32) (x y : Int32) (ql : Nat) : Int32 :=
  if FX1_has p x y = 0 then 0 else if FX1_has p (x + nI ql - 1) y = 0 then 0 else if FX5_coveredWithin p n U N I V x.toNatClampNeg y.toNatClampNeg ql 1 = 0 then 1 else 0
set_option maxHeartbeats 4000000 in
set_option maxRecDepth 100000 in
theorem kX5_isFree {G : xG} {l : Launch} {d : Nat} {h : xH} {Q : Option Value → xH → Prop} {sc pg sx sy al ed : Nat} {C : Nat → Nat} {B : Nat → Nat → Nat} {p : xPv} {n : Int32} {U : Nat → Nat → Int32} {md : Int32} {N : Nat} {I : Nat → xSi} {V : Nat → Nat → Nat → Int32} {cw rh ql : Nat} {x y : Int32} (hK : xCls G sc pg sx sy al ed C B p n U md N I V h) (hn20 : n ≤ 20) (hp1 : p.1 = nI cw) (hp2 : p.2.1 = nI rh) (hp3 : cw < 100) (hp4 : rh < 100) (hql : ql < 100) (hQ : Q (some (.int (FX5_isFree p n U N I V x y ql))) h) : xV G l mX5_isFree (d + 6) 0 0 0 0 0 [.ref sc, .int x, .int y, .int (nI ql)] [] h Q := by
  refine x_aload_n dX5_isFree_0 rfl ?_
  refine x_get 0 dX5_isFree_1 hK.1 rfl (by decide) (by decide +kernel) rfl ?_
  refine x_iload_n dX5_isFree_4 rfl ?_
  refine x_iload_n dX5_isFree_5 rfl ?_
  refine x_callV (M' := mX1_has) (mc' := 0) (ms' := 0) (As := [.int x, .int y]) dX5_isFree_6 gX5_isFree_X1_has okX1_has rfl rfl hK.2.1.1 rfl (Nat.le_of_ble_eq_true rfl) (Nat.le_of_ble_eq_true rfl) (Nat.le_refl _) (Nat.le_refl _) (Nat.le_refl _) ?_
  refine kX1_has hK.2.1 ?_
  show xV _ _ _ _ _ _ _ _ _ _ _ _ _
  refine x_if_eq (tgt := 43) dX5_isFree_9 (by decide) (fun hc_9 => ?_) (fun hc_9 => ?_)
  · refine x_iconst (v := 0) dX5_isFree_43 (by decide) ?_
    exact x_zret dX5_isFree_44 rfl rfl (xri (by unfold FX5_isFree; rw [if_pos hc_9]) hQ)
  · refine x_aload_n dX5_isFree_12 rfl ?_
    refine x_get 0 dX5_isFree_13 hK.1 rfl (by decide) (by decide +kernel) rfl ?_
    refine x_iload_n dX5_isFree_16 rfl ?_
    refine x_iload_n dX5_isFree_17 rfl ?_
    refine x_iadd dX5_isFree_18 ?_
    refine x_iconst (v := 1) dX5_isFree_19 (by decide) ?_
    refine x_isub dX5_isFree_20 ?_
    refine x_iload_n dX5_isFree_21 rfl ?_
    refine x_callV (M' := mX1_has) (mc' := 0) (ms' := 0) (As := [.int ((x + (nI ql)) - (1 : Int32)), .int y]) dX5_isFree_22 gX5_isFree_X1_has okX1_has rfl rfl hK.2.1.1 rfl (Nat.le_of_ble_eq_true rfl) (Nat.le_of_ble_eq_true rfl) (Nat.le_refl _) (Nat.le_refl _) (Nat.le_refl _) ?_
    refine kX1_has hK.2.1 ?_
    show xV _ _ _ _ _ _ _ _ _ _ _ _ _
    refine x_if_eq (tgt := 43) dX5_isFree_25 (by decide) (fun hc_25 => ?_) (fun hc_25 => ?_)
    · refine x_iconst (v := 0) dX5_isFree_43 (by decide) ?_
      exact x_zret dX5_isFree_44 rfl rfl (xri (by unfold FX5_isFree; rw [if_neg hc_9, if_pos hc_25]) hQ)
    · refine x_aload_n dX5_isFree_28 rfl ?_
      refine x_iload_n dX5_isFree_29 rfl ?_
      refine x_iload_n dX5_isFree_30 rfl ?_
      refine x_iload_n dX5_isFree_31 rfl ?_
      refine x_iconst (v := 1) dX5_isFree_32 (by decide) ?_
      refine x_callV (M' := mX5_coveredWithin) (mc' := 0) (ms' := 0) (As := [.int x, .int y, .int (nI ql), .int (1 : Int32)]) dX5_isFree_33 gX5_isFree_X5_coveredWithin okX5_coveredWithin rfl rfl hK.1 rfl (Nat.le_of_ble_eq_true rfl) (Nat.le_of_ble_eq_true rfl) (Nat.le_refl _) (Nat.le_refl _) (Nat.le_refl _) ?_
      obtain ⟨hx1, hy1, hx2, hy2⟩ := has_nn hp1 hp2 hp3 hp4 hc_9
      refine x_ls (L' := [.ref sc, .int (nI x.toNatClampNeg), .int (nI y.toNatClampNeg), .int (nI ql), .int (nI 1), xU, xU, xU]) (by show [_, Value.int x, Value.int y, _, _, _, _, _] = [_, Value.int (nI x.toNatClampNeg), Value.int (nI y.toNatClampNeg), _, _, _, _, _]; rw [← hx2, ← hy2]; rfl) rfl ?_
      refine kX5_coveredWithin hK hn20 (by omega) (by omega) ?_
      show xV _ _ _ _ _ _ _ _ _ _ _ _ _
      refine x_if_ne (tgt := 43) dX5_isFree_36 (by decide) (fun hc_36 => ?_) (fun hc_36 => ?_)
      · refine x_iconst (v := 0) dX5_isFree_43 (by decide) ?_
        exact x_zret dX5_isFree_44 rfl rfl (xri (by unfold FX5_isFree; rw [if_neg hc_9, if_neg hc_25, if_neg hc_36]) hQ)
      · refine x_iconst (v := 1) dX5_isFree_39 (by decide) ?_
        refine x_goto (tgt := 44) dX5_isFree_40 (by decide) ?_
        exact x_zret dX5_isFree_44 rfl rfl (xri (by unfold FX5_isFree; rw [if_neg hc_9, if_neg hc_25, if_pos hc_36]) hQ)
def LX5_bft (bits : Int32) : Nat → Int32 → Int32
  | 0, _ => -9
  | m + 1, lf => if ((bits >>> (nI m &&& 31)) &&& 1) = 0 then LX5_bft bits m lf else if lf = 0 then nI m else LX5_bft bits m (lf + (-1))
def FX5_bitFromTop (bits ab : Int32) : Int32 := LX5_bft bits 24 ab
set_option maxHeartbeats 4000000 in
set_option maxRecDepth 100000 in
theorem kX5_bitFromTop {G : xG} {l : Launch} {d : Nat} {h : xH} {Q : Option Value → xH → Prop} {bits ab : Int32} (hQ : Q (some (.int (FX5_bitFromTop bits ab))) h) : xV G l mX5_bitFromTop d 0 0 0 0 0 [.int bits, .int ab, xU, xU] [] h Q := by
  have loop : ∀ (n9 : Nat) (lf : Int32), n9 ≤ 24 → Q (some (.int (LX5_bft bits n9 lf))) h → xV G l mX5_bitFromTop d 0 0 0 0 5 [.int bits, .int ab, .int lf, .int (nI n9 - 1)] [] h Q := by
    intro n9
    induction n9 with
    | zero =>
      intro lf h9 hQ
      rw [LX5_bft] at hQ
      refine x_iload_n dX5_bitFromTop_5 rfl ?_
      refine x_if_lt (tgt := 35) dX5_bitFromTop_6 (by decide) (fun _ => ?_) (fun z9 => absurd (by decide) z9)
      refine x_bipush (v := (-9)) dX5_bitFromTop_35 (by decide) ?_
      exact x_iret dX5_bitFromTop_37 rfl hQ
    | succ n9 ih =>
      intro lf h9 hQ
      rw [LX5_bft] at hQ
      refine xV.sub (L' := [.int bits, .int ab, .int lf, .int (nI n9)]) ⟨Or.inr rfl, Or.inr rfl, Or.inr rfl, Or.inr (congrArg Value.int (nI_pred n9)), trivial⟩ ?_
      refine x_iload_n dX5_bitFromTop_5 rfl ?_
      refine x_if_lt (tgt := 35) dX5_bitFromTop_6 (by decide) (fun z9 => absurd z9 (nI_pos (by omega))) (fun _ => ?_)
      refine x_iload_n dX5_bitFromTop_9 rfl ?_
      refine x_iload_n dX5_bitFromTop_10 rfl ?_
      refine x_ishr dX5_bitFromTop_11 ?_
      refine x_iconst (v := 1) dX5_bitFromTop_12 (by decide) ?_
      refine x_iand dX5_bitFromTop_13 ?_
      refine x_if_ne (tgt := 20) dX5_bitFromTop_14 (by decide) (fun hc_14 => ?_) (fun hc_14 => ?_)
      · refine x_iload_n dX5_bitFromTop_20 rfl ?_
        refine x_if_ne (tgt := 26) dX5_bitFromTop_21 (by decide) (fun hc_21 => ?_) (fun hc_21 => ?_)
        · refine x_iinc (v := (-1)) dX5_bitFromTop_26 rfl (by decide) (by decide) rfl ?_
          refine x_iinc (v := (-1)) dX5_bitFromTop_29 rfl (by decide) (by decide) rfl ?_
          refine x_goto (tgt := 5) dX5_bitFromTop_32 (by decide) ?_
          refine xV.sub (L' := [.int bits, .int ab, .int (lf + (-1)), .int (nI n9 - 1)]) ⟨Or.inr rfl, Or.inr rfl, Or.inr rfl, Or.inr (congrArg Value.int (xneg1 n9)), trivial⟩ (ih (lf + (-1)) (by omega) (by rw [if_neg hc_14, if_neg hc_21] at hQ; exact hQ))
        · refine x_iload_n dX5_bitFromTop_24 rfl ?_
          rw [if_neg hc_14, if_pos hc_21] at hQ
          exact x_iret dX5_bitFromTop_25 rfl hQ
      · refine x_goto (tgt := 29) dX5_bitFromTop_17 (by decide) ?_
        refine x_iinc (v := (-1)) dX5_bitFromTop_29 rfl (by decide) (by decide) rfl ?_
        refine x_goto (tgt := 5) dX5_bitFromTop_32 (by decide) ?_
        refine xV.sub (L' := [.int bits, .int ab, .int lf, .int (nI n9 - 1)]) ⟨Or.inr rfl, Or.inr rfl, Or.inr rfl, Or.inr (congrArg Value.int (xneg1 n9)), trivial⟩ (ih lf (by omega) (by rw [if_pos hc_14] at hQ; exact hQ))
  refine x_iload_n dX5_bitFromTop_0 rfl ?_
  refine x_istore_n dX5_bitFromTop_1 (by decide) rfl ?_
  refine x_bipush (v := 23) dX5_bitFromTop_2 (by decide) ?_
  refine x_istore_n dX5_bitFromTop_4 (by decide) rfl ?_
  refine xV.sub (L' := [.int bits, .int ab, .int ab, .int (nI 24 - 1)]) ⟨Or.inr rfl, Or.inr rfl, Or.inr rfl, Or.inr (by decide), trivial⟩ (loop 24 ab (by omega) hQ)
