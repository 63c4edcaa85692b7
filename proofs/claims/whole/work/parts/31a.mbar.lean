def mbcell (I : xMi) (s x row : Int32) : Int32 := ((640 * s) + (row * I.1)) + (x / 2)
def mbhere (lf : Int32) : Int32 := 9600 + (if lf ≤ 8 then lf else 8)
def mbarR (I : xMi) (r : xR2) (s q x row lf : Int32) : xR2 :=
  (upd r.1 (Int32.toNatClampNeg (mbcell I s x row)) (if mbhere lf ≤ r.1 (Int32.toNatClampNeg (mbcell I s x row)) then r.1 (Int32.toNatClampNeg (mbcell I s x row)) else mbhere lf), dHit r.2 (mbcell I s x row) q)
def LX6_bar (I : xMi) (s q x : Int32) : Nat → Int32 → xR2 → xR2
  | 0, _, r => r
  | m + 1, lf, r => if lf ≤ 0 then r else LX6_bar I s q x m (lf + (-8)) (mbarR I r s q x (nI m) lf)
def FX6_bar (I : xMi) (r : xR2) (s q x y : Int32) : xR2 := LX6_bar I s q x (I.2.1).toNatClampNeg (2 * (y + 1)) r
def mbarOk (I : xMi) (s x y : Int32) : Prop := I.2.1 = nI (I.2.1).toNatClampNeg ∧ (I.2.1).toNatClampNeg < 1000 ∧ (2 * (y + 1) : Int32).toInt ≤ 8 * ((I.2.1).toNatClampNeg : Int) ∧ ∀ m : Nat, m < (I.2.1).toNatClampNeg → vp_in (mbcell I s x (nI m)) 3840
theorem xm8 {lf : Int32} {n : Nat} (h : ¬ lf ≤ 0) (h2 : lf.toInt ≤ 8 * ((n + 1 : Nat) : Int)) : (lf + (-8)).toInt ≤ 8 * (n : Int) := by
  rw [Int32.le_iff_toInt_le] at h
  have e0 : (0 : Int32).toInt = 0 := rfl
  have e8 : (-8 : Int32).toInt = -8 := rfl
  have hb := lf.toInt_lt
  rw [Int32.toInt_add, e8]
  have : (lf.toInt + -8).bmod (2 ^ 32) = lf.toInt + -8 := by
    rw [Int.bmod_def]; omega
  omega
theorem xle0 {lf : Int32} (h : lf.toInt ≤ 8 * ((0 : Nat) : Int)) : lf ≤ 0 := by
  rw [Int32.le_iff_toInt_le]
  have e0 : (0 : Int32).toInt = 0 := rfl
  omega
set_option maxHeartbeats 4000000 in
set_option maxRecDepth 100000 in
theorem kX6_bar {G : xG} {l : Launch} {d : Nat} {h : xH} {Q : Option Value → xH → Prop} {A : Nat → Nat} {I : xMi} {V : Nat → Nat → Int32} {r : xR2} {s q x y : Int32} (hM : xMod G A I (vrM V r) h) (hA : ∀ {i j : Nat}, i ≠ j → A i ≠ A j) (hok : mbarOk I s x y) (hQ : ∀ h', xMod G A I (vrM V (FX6_bar I r s q x y)) h' → xfM A h h' → Q none h') : xV G l mX6_bar d 0 0 0 0 0 [.ref (A 0), .int s, .int q, .int x, .int y, xU, xU, xU, xU] [] h Q := by
  have loop : ∀ (n9 : Nat) (lf : Int32) (r9 : xR2) (h1 : xH), n9 ≤ (I.2.1).toNatClampNeg → lf.toInt ≤ 8 * (n9 : Int) → LX6_bar I s q x n9 lf r9 = FX6_bar I r s q x y → xMod G A I (vrM V r9) h1 → xfM A h h1 → xV G l mX6_bar d 0 0 0 0 16 [.ref (A 0), .int s, .int q, .int x, .int y, .int lf, .int (nI n9 - 1), xU, xU] [] h1 Q := by
    have hrr := hok.2.1
    intro n9
    clear hM
    induction n9 with
    | zero =>
      intro lf r9 h1 hj hlf hf hM hF
      refine x_iload dX6_bar_16 rfl ?_
      refine x_if_le (tgt := 113) dX6_bar_18 (by decide) (fun _ => ?_) (fun z9 => absurd (xle0 hlf) z9)
      rw [LX6_bar] at hf
      exact x_vret dX6_bar_113 rfl (hQ h1 (hf ▸ hM) hF)
    | succ n9 ih =>
      intro lf r9 h1 hj hlf hf hM hF
      refine xV.sub (L' := [.ref (A 0), .int s, .int q, .int x, .int y, .int lf, .int (nI n9), xU, xU]) ⟨Or.inr rfl, Or.inr rfl, Or.inr rfl, Or.inr rfl, Or.inr rfl, Or.inr rfl, Or.inr (congrArg Value.int (nI_pred n9)), Or.inl rfl, Or.inl rfl, trivial⟩ ?_
      rw [LX6_bar] at hf
      refine x_iload dX6_bar_16 rfl ?_
      refine x_if_le (tgt := 113) dX6_bar_18 (by decide) (fun hc_18 => ?_) (fun hc_18 => ?_)
      · rw [if_pos hc_18] at hf
        exact x_vret dX6_bar_113 rfl (hQ h1 (hf ▸ hM) hF)
      · refine x_sipush (v := 640) dX6_bar_21 (by decide) ?_
        refine x_iload_n dX6_bar_24 rfl ?_
        refine x_imul dX6_bar_25 ?_
        refine x_iload dX6_bar_26 rfl ?_
        refine x_aload_n dX6_bar_28 rfl ?_
        refine x_get 0 dX6_bar_29 hM.1 rfl (by decide) (by decide +kernel) rfl ?_
        refine x_imul dX6_bar_32 ?_
        refine x_iadd dX6_bar_33 ?_
        refine x_iload_n dX6_bar_34 rfl ?_
        refine x_iconst (v := 2) dX6_bar_35 (by decide) ?_
        refine x_idiv dX6_bar_36 (by decide) ?_
        refine x_iadd dX6_bar_37 ?_
        refine x_ls (st' := [.int (mbcell I s x (nI n9))]) rfl rfl ?_
        refine x_istore dX6_bar_38 (by decide) rfl ?_
        refine x_sipush (v := 9600) dX6_bar_40 (by decide) ?_
        refine x_iload dX6_bar_43 rfl ?_
        refine x_bipush (v := 8) dX6_bar_45 (by decide) ?_
        have J57 : xV G l mX6_bar d 0 0 0 0 57 [.ref (A 0), .int s, .int q, .int x, .int y, .int lf, .int (nI n9), .int (mbcell I s x (nI n9)), xU] [.int (if lf ≤ (8 : Int32) then lf else (8 : Int32)), .int (9600 : Int32)] h1 Q := by
          refine x_iadd dX6_bar_57 ?_
          refine x_ls (st' := [.int (mbhere lf)]) rfl rfl ?_
          refine x_istore dX6_bar_58 (by decide) rfl ?_
          refine x_aload_n dX6_bar_60 rfl ?_
          refine x_get 23 dX6_bar_61 hM.1 rfl (by decide) (by decide +kernel) rfl ?_
          refine x_iload dX6_bar_64 rfl ?_
          refine x_iload dX6_bar_66 rfl ?_
          refine x_aload_n dX6_bar_68 rfl ?_
          refine x_get 23 dX6_bar_69 hM.1 rfl (by decide) (by decide +kernel) rfl ?_
          refine x_iload dX6_bar_72 rfl ?_
          refine x_iald dX6_bar_74 (hM.r 23 (by decide) (by decide)) (hok.2.2.2 n9 (by omega)) ?_
          have J90 : xV G l mX6_bar d 0 0 0 0 90 [.ref (A 0), .int s, .int q, .int x, .int y, .int lf, .int (nI n9), .int (mbcell I s x (nI n9)), .int (mbhere lf)] [.int (if (mbhere lf) ≤ ((vrM V r9 23) (Int32.toNatClampNeg (mbcell I s x (nI n9)))) then ((vrM V r9 23) (Int32.toNatClampNeg (mbcell I s x (nI n9)))) else (mbhere lf)), .int (mbcell I s x (nI n9)), .ref (A 23)] h1 Q := by
            refine x_iast dX6_bar_90 (hM.r 23 (by decide) (by decide)) (hok.2.2.2 n9 (by omega)) ?_
            refine x_aload_n dX6_bar_91 rfl ?_
            refine x_get 24 dX6_bar_92 (xup_k (hA (by decide)) hM.1) rfl (by decide) (by decide +kernel) rfl ?_
            refine x_iload dX6_bar_95 rfl ?_
            refine x_dup2 dX6_bar_97 rfl rfl ?_
            refine x_iald dX6_bar_98 (xup_k (hA (by decide)) (hM.r 24 (by decide) (by decide))) (hok.2.2.2 n9 (by omega)) ?_
            refine x_iconst (v := 1) dX6_bar_99 (by decide) ?_
            refine x_iload_n dX6_bar_100 rfl ?_
            refine x_ishl dX6_bar_101 ?_
            refine x_ior dX6_bar_102 ?_
            refine x_iast dX6_bar_103 (xup_k (hA (by decide)) (hM.r 24 (by decide) (by decide))) (hok.2.2.2 n9 (by omega)) ?_
            refine x_iinc (v := (-8)) dX6_bar_104 rfl (by decide) (by decide) rfl ?_
            refine x_iinc (v := (-1)) dX6_bar_107 rfl (by decide) (by decide) rfl ?_
            refine x_goto (tgt := 16) dX6_bar_110 (by decide) ?_
            rw [if_neg hc_18] at hf
            have hM9 := ((hM.w hA 23 (by decide) (mbarR I r9 s q x (nI n9) lf).1).w hA 24 (by decide) (mbarR I r9 s q x (nI n9) lf).2)
            rw [vrM_up] at hM9
            refine xV.sub (L' := [.ref (A 0), .int s, .int q, .int x, .int y, .int (lf + (-8)), .int (nI n9 - 1), xU, xU]) ⟨Or.inr rfl, Or.inr rfl, Or.inr rfl, Or.inr rfl, Or.inr rfl, Or.inr rfl, Or.inr (congrArg Value.int (xneg1 n9)), Or.inl rfl, Or.inl rfl, trivial⟩ (ih (lf + (-8)) _ _ (by omega) (xm8 hc_18 hlf) hf hM9 (hF.tr (fun a9 ha => by rw [xup_n (ha 24), xup_n (ha 23)])))
          refine x_icmp_le (tgt := 83) dX6_bar_75 (by decide) (fun hc_75 => ?_) (fun hc_75 => ?_)
          · refine x_aload_n dX6_bar_83 rfl ?_
            refine x_get 23 dX6_bar_84 hM.1 rfl (by decide) (by decide +kernel) rfl ?_
            refine x_iload dX6_bar_87 rfl ?_
            refine x_iald dX6_bar_89 (hM.r 23 (by decide) (by decide)) (hok.2.2.2 n9 (by omega)) ?_
            exact x_ls rfl (by first | rfl | (rw [if_pos hc_75] <;> rfl) | (simp only [if_pos hc_75]; rfl) | (simp only [if_pos hc_75])) J90
          · refine x_iload dX6_bar_78 rfl ?_
            refine x_goto (tgt := 90) dX6_bar_80 (by decide) ?_
            exact x_ls rfl (by first | rfl | (rw [if_neg hc_75] <;> rfl) | (simp only [if_neg hc_75]; rfl) | (simp only [if_neg hc_75])) J90
        refine x_icmp_le (tgt := 55) dX6_bar_47 (by decide) (fun hc_47 => ?_) (fun hc_47 => ?_)
        · refine x_iload dX6_bar_55 rfl ?_
          exact x_ls rfl (by first | rfl | (rw [if_pos hc_47] <;> rfl) | (simp only [if_pos hc_47]; rfl) | (simp only [if_pos hc_47])) J57
        · refine x_bipush (v := 8) dX6_bar_50 (by decide) ?_
          refine x_goto (tgt := 57) dX6_bar_52 (by decide) ?_
          exact x_ls rfl (by first | rfl | (rw [if_neg hc_47] <;> rfl) | (simp only [if_neg hc_47]; rfl) | (simp only [if_neg hc_47])) J57
  refine x_iconst (v := 2) dX6_bar_0 (by decide) ?_
  refine x_iload dX6_bar_1 rfl ?_
  refine x_iconst (v := 1) dX6_bar_3 (by decide) ?_
  refine x_iadd dX6_bar_4 ?_
  refine x_imul dX6_bar_5 ?_
  refine x_istore dX6_bar_6 (by decide) rfl ?_
  refine x_aload_n dX6_bar_8 rfl ?_
  refine x_get 1 dX6_bar_9 hM.1 rfl (by decide) (by decide +kernel) rfl ?_
  refine x_iconst (v := 1) dX6_bar_12 (by decide) ?_
  refine x_isub dX6_bar_13 ?_
  refine x_istore dX6_bar_14 (by decide) rfl ?_
  refine xV.sub (L' := [.ref (A 0), .int s, .int q, .int x, .int y, .int (2 * (y + 1)), .int (nI (I.2.1).toNatClampNeg - 1), xU, xU]) ⟨Or.inr rfl, Or.inr rfl, Or.inr rfl, Or.inr rfl, Or.inr rfl, Or.inr rfl, Or.inr (by rw [← hok.1]), Or.inl rfl, Or.inl rfl, trivial⟩ (loop (I.2.1).toNatClampNeg _ r h (Nat.le_refl _) hok.2.2.1 rfl hM xfM.rf)
def mPx (I : xMi) (V : Nat → Nat → Int32) (s q : Int32) : Int32 := FX6_across I V s q
def mPy (I : xMi) (V : Nat → Nat → Int32) (s q : Int32) : Int32 := FX6_upwards I V s q
def mBx (I : xMi) (V : Nat → Nat → Int32) (s q : Int32) : Int32 := if FX6_isSeen I V s (q - 1) = 0 then mPx I V s q else FX6_across I V s (q - 1)
def mBy (I : xMi) (V : Nat → Nat → Int32) (s q : Int32) : Int32 := if FX6_isSeen I V s (q - 1) = 0 then mPy I V s q else FX6_upwards I V s (q - 1)
def mE1 (I : xMi) (V : Nat → Nat → Int32) (s q : Int32) : Int32 := FX6_endOf I V ((V 13 (Int32.toNatClampNeg ((24 * s) + q))) - (V 14 (Int32.toNatClampNeg ((24 * s) + q)))) (mPy I V s q)
def mE2 (I : xMi) (V : Nat → Nat → Int32) (s q : Int32) : Int32 := FX6_endOf I V ((V 13 (Int32.toNatClampNeg ((24 * s) + q))) + (V 14 (Int32.toNatClampNeg ((24 * s) + q)))) (mPy I V s q)
def FX6_drawsPoint (I : xMi) (V : Nat → Nat → Int32) (r : xR2) (s q : Int32) : xR2 :=
  if V 8 (Int32.toNatClampNeg s) = 0 then (upd r.1 (Int32.toNatClampNeg (mcell I s (mPx I V s q) (mPy I V s q))) (V 10 (Int32.toNatClampNeg s)), dHit r.2 (mcell I s (mPx I V s q) (mPy I V s q)) q)
  else if V 8 (Int32.toNatClampNeg s) = 1 then FX6_lineOf I r s q (mBx I V s q) (mBy I V s q) (mPx I V s q) (mPy I V s q)
  else if V 8 (Int32.toNatClampNeg s) = 2 then FX6_lineOf I (FX6_lineOf I r s q (mBx I V s q) (mBy I V s q) (mPx I V s q) (mBy I V s q)) s q (mPx I V s q) (mBy I V s q) (mPx I V s q) (mPy I V s q)
  else if V 8 (Int32.toNatClampNeg s) = 3 then FX6_bar I r s q (mPx I V s q) (mPy I V s q)
  else FX6_lineOf I r s q (mPx I V s q) (mE1 I V s q) (mPx I V s q) (mE2 I V s q)
def mdrOk (I : xMi) (V : Nat → Nat → Int32) (s q : Int32) : Prop := vp_in (mcell I s (mPx I V s q) (mPy I V s q)) 3840 ∧ mlnOk I s (mBx I V s q) (mBy I V s q) (mPx I V s q) (mPy I V s q) ∧ mlnOk I s (mBx I V s q) (mBy I V s q) (mPx I V s q) (mBy I V s q) ∧ mlnOk I s (mPx I V s q) (mBy I V s q) (mPx I V s q) (mPy I V s q) ∧ mbarOk I s (mPx I V s q) (mPy I V s q) ∧ mlnOk I s (mPx I V s q) (mE1 I V s q) (mPx I V s q) (mE2 I V s q)
theorem mseen_ge {I : xMi} {V : Nat → Nat → Int32} {s q : Int32} (h : ¬ FX6_isSeen I V s q = 0) : ¬ q < 0 := by
  intro z
  apply h
  unfold FX6_isSeen
  rw [if_pos z]
set_option maxHeartbeats 4000000 in
set_option maxRecDepth 100000 in
theorem kX6_drawsPoint {G : xG} {l : Launch} {d : Nat} {h : xH} {Q : Option Value → xH → Prop} {A : Nat → Nat} {I : xMi} {V : Nat → Nat → Int32} {r : xR2} {s q : Int32} (hM : xMod G A I (vrM V r) h) (hA : ∀ {i j : Nat}, i ≠ j → A i ≠ A j) (hdv : ∀ ax, vp_in ax 2 → ¬ (2 : Int64) * FX6_span I (vrM V r) ax = 0) (hs : vp_in s 6) (hix : vp_in ((24 * s) + q) 144) (hix1 : ¬ (q - 1) < 0 → vp_in ((24 * s) + (q - 1)) 144) (hok : mdrOk I (vrM V r) s q) (hQ : ∀ h', xMod G A I (vrM V (FX6_drawsPoint I (vrM V r) r s q)) h' → xfM A h h' → Q none h') : xV G l mX6_drawsPoint (d + 6) 0 0 0 0 0 [.ref (A 0), .int s, .int q, xU, xU, xU, xU, xU, xU] [] h Q := by
  refine x_aload_n dX6_drawsPoint_0 rfl ?_
  refine x_iload_n dX6_drawsPoint_1 rfl ?_
  refine x_iload_n dX6_drawsPoint_2 rfl ?_
  refine x_callV (M' := mX6_across) (mc' := 0) (ms' := 0) (As := [.int s, .int q]) dX6_drawsPoint_3 gX6_drawsPoint_X6_across okX6_across rfl rfl hM.1 rfl (Nat.le_of_ble_eq_true rfl) (Nat.le_of_ble_eq_true rfl) (Nat.le_refl _) (Nat.le_refl _) (Nat.le_refl _) ?_
  refine kX6_across hM hdv hix ?_
  show xV _ _ _ _ _ _ _ _ _ _ _ _ _
  refine x_ls (st' := [.int (mPx I (vrM V r) s q)]) rfl rfl ?_
  refine x_istore_n dX6_drawsPoint_6 (by decide) rfl ?_
  refine x_aload_n dX6_drawsPoint_7 rfl ?_
  refine x_iload_n dX6_drawsPoint_8 rfl ?_
  refine x_iload_n dX6_drawsPoint_9 rfl ?_
  refine x_callV (M' := mX6_upwards) (mc' := 0) (ms' := 0) (As := [.int s, .int q]) dX6_drawsPoint_10 gX6_drawsPoint_X6_upwards okX6_upwards rfl rfl hM.1 rfl (Nat.le_of_ble_eq_true rfl) (Nat.le_of_ble_eq_true rfl) (Nat.le_refl _) (Nat.le_refl _) (Nat.le_refl _) ?_
  refine kX6_upwards hM hdv hix ?_
  show xV _ _ _ _ _ _ _ _ _ _ _ _ _
  refine x_ls (st' := [.int (mPy I (vrM V r) s q)]) rfl rfl ?_
  refine x_istore dX6_drawsPoint_13 (by decide) rfl ?_
  refine x_aload_n dX6_drawsPoint_15 rfl ?_
  refine x_iload_n dX6_drawsPoint_16 rfl ?_
  refine x_iload_n dX6_drawsPoint_17 rfl ?_
  refine x_iconst (v := 1) dX6_drawsPoint_18 (by decide) ?_
  refine x_isub dX6_drawsPoint_19 ?_
  refine x_callV (M' := mX6_isSeen) (mc' := 0) (ms' := 0) (As := [.int s, .int (q - (1 : Int32))]) dX6_drawsPoint_20 gX6_drawsPoint_X6_isSeen okX6_isSeen rfl rfl hM.1 rfl (Nat.le_of_ble_eq_true rfl) (Nat.le_of_ble_eq_true rfl) (Nat.le_refl _) (Nat.le_refl _) (Nat.le_refl _) ?_
  refine kX6_isSeen hM hdv hix1 ?_
  show xV _ _ _ _ _ _ _ _ _ _ _ _ _
  refine x_istore dX6_drawsPoint_23 (by decide) rfl ?_
  refine x_iload dX6_drawsPoint_25 rfl ?_
  have J42 : xV G l mX6_drawsPoint (d + 6) 0 0 0 0 42 [.ref (A 0), .int s, .int q, .int (mPx I (vrM V r) s q), .int (mPy I (vrM V r) s q), .int (FX6_isSeen I (vrM V r) s (q - (1 : Int32))), xU, xU, xU] [.int (if (FX6_isSeen I (vrM V r) s (q - (1 : Int32))) = 0 then (mPx I (vrM V r) s q) else (FX6_across I (vrM V r) s (q - (1 : Int32))))] h Q := by
    refine x_ls (st' := [.int (mBx I (vrM V r) s q)]) rfl rfl ?_
    refine x_istore dX6_drawsPoint_42 (by decide) rfl ?_
    refine x_iload dX6_drawsPoint_44 rfl ?_
    have J62 : xV G l mX6_drawsPoint (d + 6) 0 0 0 0 62 [.ref (A 0), .int s, .int q, .int (mPx I (vrM V r) s q), .int (mPy I (vrM V r) s q), .int (FX6_isSeen I (vrM V r) s (q - (1 : Int32))), .int (mBx I (vrM V r) s q), xU, xU] [.int (if (FX6_isSeen I (vrM V r) s (q - (1 : Int32))) = 0 then (mPy I (vrM V r) s q) else (FX6_upwards I (vrM V r) s (q - (1 : Int32))))] h Q := by
      refine x_ls (st' := [.int (mBy I (vrM V r) s q)]) rfl rfl ?_
      refine x_istore dX6_drawsPoint_62 (by decide) rfl ?_
      refine x_bipush (v := 24) dX6_drawsPoint_64 (by decide) ?_
      refine x_iload_n dX6_drawsPoint_66 rfl ?_
      refine x_imul dX6_drawsPoint_67 ?_
      refine x_iload_n dX6_drawsPoint_68 rfl ?_
      refine x_iadd dX6_drawsPoint_69 ?_
      refine x_istore dX6_drawsPoint_70 (by decide) rfl ?_
      refine x_aload_n dX6_drawsPoint_72 rfl ?_
      refine x_get 8 dX6_drawsPoint_73 hM.1 rfl (by decide) (by decide +kernel) rfl ?_
      refine x_iload_n dX6_drawsPoint_76 rfl ?_
      refine x_iald dX6_drawsPoint_77 (hM.r 8 (by decide) (by decide)) hs ?_
      by_cases hs_78_0 : ((vrM V r 8) (Int32.toNatClampNeg s)) = 0
      · refine x_tcase hs_78_0 (tgt := 108) (off := 30) dX6_drawsPoint_78 (by decide) (by decide) (by decide) (by decide) ?_
        refine x_aload_n dX6_drawsPoint_108 rfl ?_
        refine x_get 23 dX6_drawsPoint_109 hM.1 rfl (by decide) (by decide +kernel) rfl ?_
        refine x_sipush (v := 640) dX6_drawsPoint_112 (by decide) ?_
        refine x_iload_n dX6_drawsPoint_115 rfl ?_
        refine x_imul dX6_drawsPoint_116 ?_
        refine x_aload_n dX6_drawsPoint_117 rfl ?_
        refine x_iload_n dX6_drawsPoint_118 rfl ?_
        refine x_iload dX6_drawsPoint_119 rfl ?_
        refine x_callV (M' := mX6_cellOf) (mc' := 0) (ms' := 0) (As := [.int (mPx I (vrM V r) s q), .int (mPy I (vrM V r) s q)]) dX6_drawsPoint_121 gX6_drawsPoint_X6_cellOf okX6_cellOf rfl rfl hM.1 rfl (Nat.le_of_ble_eq_true rfl) (Nat.le_of_ble_eq_true rfl) (Nat.le_refl _) (Nat.le_refl _) (Nat.le_refl _) ?_
        refine kX6_cellOf hM ?_
        show xV _ _ _ _ _ _ _ _ _ _ _ _ _
        refine x_iadd dX6_drawsPoint_124 ?_
        refine x_aload_n dX6_drawsPoint_125 rfl ?_
        refine x_get 10 dX6_drawsPoint_126 hM.1 rfl (by decide) (by decide +kernel) rfl ?_
        refine x_iload_n dX6_drawsPoint_129 rfl ?_
        refine x_iald dX6_drawsPoint_130 (hM.r 10 (by decide) (by decide)) hs ?_
        refine x_iast dX6_drawsPoint_131 (hM.r 23 (by decide) (by decide)) hok.1 ?_
        have hM7 := hM.w hA 23 (by decide) (upd (vrM V r 23) (Int32.toNatClampNeg (mcell I s (mPx I (vrM V r) s q) (mPy I (vrM V r) s q))) (vrM V r 10 (Int32.toNatClampNeg s)))
        refine x_aload_n dX6_drawsPoint_132 rfl ?_
        refine x_get 24 dX6_drawsPoint_133 (xup_k (hA (by decide)) hM.1) rfl (by decide) (by decide +kernel) rfl ?_
        refine x_sipush (v := 640) dX6_drawsPoint_136 (by decide) ?_
        refine x_iload_n dX6_drawsPoint_139 rfl ?_
        refine x_imul dX6_drawsPoint_140 ?_
        refine x_aload_n dX6_drawsPoint_141 rfl ?_
        refine x_iload_n dX6_drawsPoint_142 rfl ?_
        refine x_iload dX6_drawsPoint_143 rfl ?_
        refine x_callV (M' := mX6_cellOf) (mc' := 0) (ms' := 0) (As := [.int (mPx I (vrM V r) s q), .int (mPy I (vrM V r) s q)]) dX6_drawsPoint_145 gX6_drawsPoint_X6_cellOf okX6_cellOf rfl rfl (xup_k (hA (by decide)) hM.1) rfl (Nat.le_of_ble_eq_true rfl) (Nat.le_of_ble_eq_true rfl) (Nat.le_refl _) (Nat.le_refl _) (Nat.le_refl _) ?_
        refine kX6_cellOf hM7 ?_
        show xV _ _ _ _ _ _ _ _ _ _ _ _ _
        refine x_iadd dX6_drawsPoint_148 ?_
        refine x_dup2 dX6_drawsPoint_149 rfl rfl ?_
        refine x_iald dX6_drawsPoint_150 (xup_k (hA (by decide)) (hM.r 24 (by decide) (by decide))) hok.1 ?_
        refine x_iconst (v := 1) dX6_drawsPoint_151 (by decide) ?_
        refine x_iload_n dX6_drawsPoint_152 rfl ?_
        refine x_ishl dX6_drawsPoint_153 ?_
        refine x_ior dX6_drawsPoint_154 ?_
        refine x_iast dX6_drawsPoint_155 (xup_k (hA (by decide)) (hM.r 24 (by decide) (by decide))) hok.1 ?_
        refine x_goto (tgt := 265) dX6_drawsPoint_156 (by decide) ?_
        have hM8 := hM7.w hA 24 (by decide) (dHit r.2 (mcell I s (mPx I (vrM V r) s q) (mPy I (vrM V r) s q)) q)
        rw [vrM_up] at hM8
        exact x_vret dX6_drawsPoint_265 rfl (hQ _ (by unfold FX6_drawsPoint; rw [if_pos hs_78_0]; exact hM8) (fun a9 ha => by rw [xup_n (ha 24), xup_n (ha 23)]))
      by_cases hs_78_1 : ((vrM V r 8) (Int32.toNatClampNeg s)) = 1
      · refine x_tcase hs_78_1 (tgt := 159) (off := 81) dX6_drawsPoint_78 (by decide) (by decide) (by decide) (by decide) ?_
        refine x_aload_n dX6_drawsPoint_159 rfl ?_
        refine x_iload_n dX6_drawsPoint_160 rfl ?_
        refine x_iload_n dX6_drawsPoint_161 rfl ?_
        refine x_iload dX6_drawsPoint_162 rfl ?_
        refine x_iload dX6_drawsPoint_164 rfl ?_
        refine x_iload_n dX6_drawsPoint_166 rfl ?_
        refine x_iload dX6_drawsPoint_167 rfl ?_
        refine x_callV (M' := mX6_lineOf) (mc' := 0) (ms' := 0) (As := [.int s, .int q, .int (mBx I (vrM V r) s q), .int (mBy I (vrM V r) s q), .int (mPx I (vrM V r) s q), .int (mPy I (vrM V r) s q)]) dX6_drawsPoint_169 gX6_drawsPoint_X6_lineOf okX6_lineOf rfl rfl hM.1 rfl (Nat.le_of_ble_eq_true rfl) (Nat.le_of_ble_eq_true rfl) (Nat.le_refl _) (Nat.le_refl _) (Nat.le_refl _) ?_
        refine kX6_lineOf hM hA hok.2.1 (fun h_169 hM_169 hF_169 => ?_)
        have hM := hM_169
        show xV _ _ _ _ _ _ _ _ _ _ _ _ _
        refine x_goto (tgt := 265) dX6_drawsPoint_172 (by decide) ?_
        exact x_vret dX6_drawsPoint_265 rfl (hQ _ (by unfold FX6_drawsPoint; rw [if_neg hs_78_0, if_pos hs_78_1]; exact hM) hF_169)
      by_cases hs_78_2 : ((vrM V r 8) (Int32.toNatClampNeg s)) = 2
      · refine x_tcase hs_78_2 (tgt := 175) (off := 97) dX6_drawsPoint_78 (by decide) (by decide) (by decide) (by decide) ?_
        refine x_aload_n dX6_drawsPoint_175 rfl ?_
        refine x_iload_n dX6_drawsPoint_176 rfl ?_
        refine x_iload_n dX6_drawsPoint_177 rfl ?_
        refine x_iload dX6_drawsPoint_178 rfl ?_
        refine x_iload dX6_drawsPoint_180 rfl ?_
        refine x_iload_n dX6_drawsPoint_182 rfl ?_
        refine x_iload dX6_drawsPoint_183 rfl ?_
        refine x_callV (M' := mX6_lineOf) (mc' := 0) (ms' := 0) (As := [.int s, .int q, .int (mBx I (vrM V r) s q), .int (mBy I (vrM V r) s q), .int (mPx I (vrM V r) s q), .int (mBy I (vrM V r) s q)]) dX6_drawsPoint_185 gX6_drawsPoint_X6_lineOf okX6_lineOf rfl rfl hM.1 rfl (Nat.le_of_ble_eq_true rfl) (Nat.le_of_ble_eq_true rfl) (Nat.le_refl _) (Nat.le_refl _) (Nat.le_refl _) ?_
        refine kX6_lineOf hM hA hok.2.2.1 (fun h_185 hM_185 hF_185 => ?_)
        have hM := hM_185
        show xV _ _ _ _ _ _ _ _ _ _ _ _ _
        refine x_aload_n dX6_drawsPoint_188 rfl ?_
        refine x_iload_n dX6_drawsPoint_189 rfl ?_
        refine x_iload_n dX6_drawsPoint_190 rfl ?_
        refine x_iload_n dX6_drawsPoint_191 rfl ?_
        refine x_iload dX6_drawsPoint_192 rfl ?_
        refine x_iload_n dX6_drawsPoint_194 rfl ?_
        refine x_iload dX6_drawsPoint_195 rfl ?_
        refine x_callV (M' := mX6_lineOf) (mc' := 0) (ms' := 0) (As := [.int s, .int q, .int (mPx I (vrM V r) s q), .int (mBy I (vrM V r) s q), .int (mPx I (vrM V r) s q), .int (mPy I (vrM V r) s q)]) dX6_drawsPoint_197 gX6_drawsPoint_X6_lineOf okX6_lineOf rfl rfl hM.1 rfl (Nat.le_of_ble_eq_true rfl) (Nat.le_of_ble_eq_true rfl) (Nat.le_refl _) (Nat.le_refl _) (Nat.le_refl _) ?_
        refine kX6_lineOf hM hA hok.2.2.2.1 (fun h_197 hM_197 hF_197 => ?_)
        have hM := hM_197
        show xV _ _ _ _ _ _ _ _ _ _ _ _ _
        refine x_goto (tgt := 265) dX6_drawsPoint_200 (by decide) ?_
        exact x_vret dX6_drawsPoint_265 rfl (hQ _ (by unfold FX6_drawsPoint; rw [if_neg hs_78_0, if_neg hs_78_1, if_pos hs_78_2]; exact hM) (hF_185.tr hF_197))
      by_cases hs_78_3 : ((vrM V r 8) (Int32.toNatClampNeg s)) = 3
      · refine x_tcase hs_78_3 (tgt := 203) (off := 125) dX6_drawsPoint_78 (by decide) (by decide) (by decide) (by decide) ?_
        refine x_aload_n dX6_drawsPoint_203 rfl ?_
        refine x_iload_n dX6_drawsPoint_204 rfl ?_
        refine x_iload_n dX6_drawsPoint_205 rfl ?_
        refine x_iload_n dX6_drawsPoint_206 rfl ?_
        refine x_iload dX6_drawsPoint_207 rfl ?_
        refine x_callV (M' := mX6_bar) (mc' := 0) (ms' := 0) (As := [.int s, .int q, .int (mPx I (vrM V r) s q), .int (mPy I (vrM V r) s q)]) dX6_drawsPoint_209 gX6_drawsPoint_X6_bar okX6_bar rfl rfl hM.1 rfl (Nat.le_of_ble_eq_true rfl) (Nat.le_of_ble_eq_true rfl) (Nat.le_refl _) (Nat.le_refl _) (Nat.le_refl _) ?_
        refine kX6_bar hM hA hok.2.2.2.2.1 (fun h_209 hM_209 hF_209 => ?_)
        have hM := hM_209
        show xV _ _ _ _ _ _ _ _ _ _ _ _ _
        refine x_goto (tgt := 265) dX6_drawsPoint_212 (by decide) ?_
        exact x_vret dX6_drawsPoint_265 rfl (hQ _ (by unfold FX6_drawsPoint; rw [if_neg hs_78_0, if_neg hs_78_1, if_neg hs_78_2, if_pos hs_78_3]; exact hM) hF_209)
      have z_78_0 : Int32.toInt (((vrM V r 8) (Int32.toNatClampNeg s))) ≠ 0 := fun q => hs_78_0 (Int32.toInt_inj.mp (by rw [q]; rfl))
      have z_78_1 : Int32.toInt (((vrM V r 8) (Int32.toNatClampNeg s))) ≠ 1 := fun q => hs_78_1 (Int32.toInt_inj.mp (by rw [q]; rfl))
      have z_78_2 : Int32.toInt (((vrM V r 8) (Int32.toNatClampNeg s))) ≠ 2 := fun q => hs_78_2 (Int32.toInt_inj.mp (by rw [q]; rfl))
      have z_78_3 : Int32.toInt (((vrM V r 8) (Int32.toNatClampNeg s))) ≠ 3 := fun q => hs_78_3 (Int32.toInt_inj.mp (by rw [q]; rfl))
      refine x_tout (tgt := 215) dX6_drawsPoint_78 (by omega) (by decide) ?_
      refine x_aload_n dX6_drawsPoint_215 rfl ?_
      refine x_iload_n dX6_drawsPoint_216 rfl ?_
      refine x_iload_n dX6_drawsPoint_217 rfl ?_
      refine x_iload_n dX6_drawsPoint_218 rfl ?_
      refine x_aload_n dX6_drawsPoint_219 rfl ?_
      refine x_aload_n dX6_drawsPoint_220 rfl ?_
      refine x_get 13 dX6_drawsPoint_221 hM.1 rfl (by decide) (by decide +kernel) rfl ?_
      refine x_iload dX6_drawsPoint_224 rfl ?_
      refine x_iald dX6_drawsPoint_226 (hM.r 13 (by decide) (by decide)) hix ?_
      refine x_aload_n dX6_drawsPoint_227 rfl ?_
      refine x_get 14 dX6_drawsPoint_228 hM.1 rfl (by decide) (by decide +kernel) rfl ?_
      refine x_iload dX6_drawsPoint_231 rfl ?_
      refine x_iald dX6_drawsPoint_233 (hM.r 14 (by decide) (by decide)) hix ?_
      refine x_isub dX6_drawsPoint_234 ?_
      refine x_iload dX6_drawsPoint_235 rfl ?_
      refine x_callV (M' := mX6_endOf) (mc' := 0) (ms' := 0) (As := [.int (((vrM V r 13) (Int32.toNatClampNeg (((24 : Int32) * s) + q))) - ((vrM V r 14) (Int32.toNatClampNeg (((24 : Int32) * s) + q)))), .int (mPy I (vrM V r) s q)]) dX6_drawsPoint_237 gX6_drawsPoint_X6_endOf okX6_endOf rfl rfl hM.1 rfl (Nat.le_of_ble_eq_true rfl) (Nat.le_of_ble_eq_true rfl) (Nat.le_refl _) (Nat.le_refl _) (Nat.le_refl _) ?_
      refine kX6_endOf hM hdv ?_
      show xV _ _ _ _ _ _ _ _ _ _ _ _ _
      refine x_ls (st' := [.int (mE1 I (vrM V r) s q), .int (mPx I (vrM V r) s q), .int q, .int s, .ref (A 0)]) rfl rfl ?_
      refine x_iload_n dX6_drawsPoint_240 rfl ?_
      refine x_aload_n dX6_drawsPoint_241 rfl ?_
      refine x_aload_n dX6_drawsPoint_242 rfl ?_
      refine x_get 13 dX6_drawsPoint_243 hM.1 rfl (by decide) (by decide +kernel) rfl ?_
      refine x_iload dX6_drawsPoint_246 rfl ?_
      refine x_iald dX6_drawsPoint_248 (hM.r 13 (by decide) (by decide)) hix ?_
      refine x_aload_n dX6_drawsPoint_249 rfl ?_
      refine x_get 14 dX6_drawsPoint_250 hM.1 rfl (by decide) (by decide +kernel) rfl ?_
      refine x_iload dX6_drawsPoint_253 rfl ?_
      refine x_iald dX6_drawsPoint_255 (hM.r 14 (by decide) (by decide)) hix ?_
      refine x_iadd dX6_drawsPoint_256 ?_
      refine x_iload dX6_drawsPoint_257 rfl ?_
      refine x_callV (M' := mX6_endOf) (mc' := 0) (ms' := 0) (As := [.int (((vrM V r 13) (Int32.toNatClampNeg (((24 : Int32) * s) + q))) + ((vrM V r 14) (Int32.toNatClampNeg (((24 : Int32) * s) + q)))), .int (mPy I (vrM V r) s q)]) dX6_drawsPoint_259 gX6_drawsPoint_X6_endOf okX6_endOf rfl rfl hM.1 rfl (Nat.le_of_ble_eq_true rfl) (Nat.le_of_ble_eq_true rfl) (Nat.le_refl _) (Nat.le_refl _) (Nat.le_refl _) ?_
      refine kX6_endOf hM hdv ?_
      show xV _ _ _ _ _ _ _ _ _ _ _ _ _
      refine x_ls (st' := [.int (mE2 I (vrM V r) s q), .int (mPx I (vrM V r) s q), .int (mE1 I (vrM V r) s q), .int (mPx I (vrM V r) s q), .int q, .int s, .ref (A 0)]) rfl rfl ?_
      refine x_callV (M' := mX6_lineOf) (mc' := 0) (ms' := 0) (As := [.int s, .int q, .int (mPx I (vrM V r) s q), .int (mE1 I (vrM V r) s q), .int (mPx I (vrM V r) s q), .int (mE2 I (vrM V r) s q)]) dX6_drawsPoint_262 gX6_drawsPoint_X6_lineOf okX6_lineOf rfl rfl hM.1 rfl (Nat.le_of_ble_eq_true rfl) (Nat.le_of_ble_eq_true rfl) (Nat.le_refl _) (Nat.le_refl _) (Nat.le_refl _) ?_
      refine kX6_lineOf hM hA hok.2.2.2.2.2 (fun h_262 hM_262 hF_262 => ?_)
      have hM := hM_262
      show xV _ _ _ _ _ _ _ _ _ _ _ _ _
      exact x_vret dX6_drawsPoint_265 rfl (hQ _ (by unfold FX6_drawsPoint; rw [if_neg hs_78_0, if_neg hs_78_1, if_neg hs_78_2, if_neg hs_78_3]; exact hM) hF_262)
    refine x_if_eq (tgt := 60) dX6_drawsPoint_46 (by decide) (fun hc_46 => ?_) (fun hc_46 => ?_)
    · refine x_iload dX6_drawsPoint_60 rfl ?_
      exact x_ls rfl (by first | rfl | (rw [if_pos hc_46] <;> rfl) | (simp only [if_pos hc_46]; rfl) | (simp only [if_pos hc_46])) J62
    · refine x_aload_n dX6_drawsPoint_49 rfl ?_
      refine x_iload_n dX6_drawsPoint_50 rfl ?_
      refine x_iload_n dX6_drawsPoint_51 rfl ?_
      refine x_iconst (v := 1) dX6_drawsPoint_52 (by decide) ?_
      refine x_isub dX6_drawsPoint_53 ?_
      refine x_callV (M' := mX6_upwards) (mc' := 0) (ms' := 0) (As := [.int s, .int (q - (1 : Int32))]) dX6_drawsPoint_54 gX6_drawsPoint_X6_upwards okX6_upwards rfl rfl hM.1 rfl (Nat.le_of_ble_eq_true rfl) (Nat.le_of_ble_eq_true rfl) (Nat.le_refl _) (Nat.le_refl _) (Nat.le_refl _) ?_
      refine kX6_upwards hM hdv (hix1 (mseen_ge hc_46)) ?_
      show xV _ _ _ _ _ _ _ _ _ _ _ _ _
      refine x_goto (tgt := 62) dX6_drawsPoint_57 (by decide) ?_
      exact x_ls rfl (by first | rfl | (rw [if_neg hc_46] <;> rfl) | (simp only [if_neg hc_46]; rfl) | (simp only [if_neg hc_46])) J62
  refine x_if_eq (tgt := 41) dX6_drawsPoint_27 (by decide) (fun hc_27 => ?_) (fun hc_27 => ?_)
  · refine x_iload_n dX6_drawsPoint_41 rfl ?_
    exact x_ls rfl (by first | rfl | (rw [if_pos hc_27] <;> rfl) | (simp only [if_pos hc_27]; rfl) | (simp only [if_pos hc_27])) J42
  · refine x_aload_n dX6_drawsPoint_30 rfl ?_
    refine x_iload_n dX6_drawsPoint_31 rfl ?_
    refine x_iload_n dX6_drawsPoint_32 rfl ?_
    refine x_iconst (v := 1) dX6_drawsPoint_33 (by decide) ?_
    refine x_isub dX6_drawsPoint_34 ?_
    refine x_callV (M' := mX6_across) (mc' := 0) (ms' := 0) (As := [.int s, .int (q - (1 : Int32))]) dX6_drawsPoint_35 gX6_drawsPoint_X6_across okX6_across rfl rfl hM.1 rfl (Nat.le_of_ble_eq_true rfl) (Nat.le_of_ble_eq_true rfl) (Nat.le_refl _) (Nat.le_refl _) (Nat.le_refl _) ?_
    refine kX6_across hM hdv (hix1 (mseen_ge hc_27)) ?_
    show xV _ _ _ _ _ _ _ _ _ _ _ _ _
    refine x_goto (tgt := 42) dX6_drawsPoint_38 (by decide) ?_
    exact x_ls rfl (by first | rfl | (rw [if_neg hc_27] <;> rfl) | (simp only [if_neg hc_27]; rfl) | (simp only [if_neg hc_27])) J42
