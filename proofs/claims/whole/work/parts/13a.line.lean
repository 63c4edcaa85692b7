def lnN (fx fy tx ty : Int32) : Int32 := (if (if 0 ≤ (tx - fx) then (tx - fx) else 0 - (tx - fx)) < (if 0 ≤ (ty - fy) then (ty - fy) else 0 - (ty - fy)) then (if 0 ≤ (ty - fy) then (ty - fy) else 0 - (ty - fy)) else (if 0 ≤ (tx - fx) then (tx - fx) else 0 - (tx - fx)))
def lnX (a b m k : Int32) : Int32 := a + FJ9_floorDiv_7cf53 (((2 * k) * (b - a)) + m) (2 * m)
def LX4_line (p : xPv) (fx fy tx ty t m : Int32) : Nat → Nat → xR2 → xR2
  | 0, _, r => r
  | n9 + 1, j, r => LX4_line p fx fy tx ty t m n9 (j + 1) (dotR p r (lnX fx tx m (nI j)) (lnX fy ty m (nI j)) t)
def FX4_line (p : xPv) (r : xR2) (fx fy tx ty t : Int32) : xR2 := if lnN fx fy tx ty = 0 then dotR p r tx ty t else LX4_line p fx fy tx ty t (lnN fx fy tx ty) ((lnN fx fy tx ty).toNatClampNeg + 1) 0 r
/-- every dot of a line lies in a cell -/
def lnOk (p : xPv) (fx fy tx ty : Int32) : Prop := ¬ lnN fx fy tx ty < 0 ∧ vp_in (dcell p tx ty) 640 ∧ (∀ j : Nat, j ≤ (lnN fx fy tx ty).toNatClampNeg → ¬ lnN fx fy tx ty = 0 → vp_in (dcell p (lnX fx tx (lnN fx fy tx ty) (nI j)) (lnX fy ty (lnN fx fy tx ty) (nI j))) 640) ∧ (lnN fx fy tx ty).toNatClampNeg < 1000
theorem xpos_of {m : Int32} (h0 : ¬ m < 0) (h1 : ¬ m = 0) : ¬ m ≤ 0 := by
  intro q
  rw [Int32.lt_iff_toInt_lt] at h0
  rw [Int32.le_iff_toInt_le] at q
  have e0 : (0 : Int32).toInt = 0 := rfl
  exact h1 (Int32.toInt_inj.mp (by omega))
theorem xgt_b {b : Int32} {j : Nat} (hb : ¬ b < 0) (h : b.toNatClampNeg < j) (hj : j < 2 ^ 31) : b < nI j := by
  rw [Int32.lt_iff_toInt_lt, nI_toInt hj]
  unfold Int32.toNatClampNeg at h
  omega
theorem xle_b {b : Int32} {j : Nat} (hb : ¬ b < 0) (h : j ≤ b.toNatClampNeg) : ¬ b < nI j := by
  intro q
  have hb2 := b.toInt_lt
  rw [Int32.lt_iff_toInt_lt] at q hb
  have e0 : (0 : Int32).toInt = 0 := rfl
  unfold Int32.toNatClampNeg at h
  rw [nI_toInt (by omega)] at q
  omega
set_option maxHeartbeats 4000000 in
set_option maxRecDepth 100000 in
theorem kX4_line {G : xG} {l : Launch} {d : Nat} {h : xH} {Q : Option Value → xH → Prop} {pg sx sy : Nat} {p : xPv} {B : Nat → Nat} {I : xSi} {V : Nat → Nat → Int32} {r : xR2} {fx fy tx ty t : Int32} (hP : xPg pg sx sy p h) (hS : xSer G B pg I (vrow V r) h) (hB : ∀ {i j : Nat}, i ≠ j → B i ≠ B j) (hn : ∀ i, B i ≠ pg ∧ B i ≠ sx ∧ B i ≠ sy) (hok : lnOk p fx fy tx ty) (hQ : ∀ h', xSer G B pg I (vrow V (FX4_line p r fx fy tx ty t)) h' → xfr B h h' → Q none h') : xV G l mX4_line (d + 2) 0 0 0 0 0 [.ref (B 5), .int fx, .int fy, .int tx, .int ty, .int t, xU, xU, xU, xU] [] h Q := by
  have h31 : (lnN fx fy tx ty).toNatClampNeg < 1000 := hok.2.2.2
  have loop : ¬ lnN fx fy tx ty = 0 → ∀ (n9 j : Nat) (r9 : xR2) (h1 : xH), j + n9 = (lnN fx fy tx ty).toNatClampNeg + 1 → LX4_line p fx fy tx ty t (lnN fx fy tx ty) n9 j r9 = FX4_line p r fx fy tx ty t → xPg pg sx sy p h1 → xSer G B pg I (vrow V r9) h1 → xfr B h h1 → xV G l mX4_line (d + 2) 0 0 0 0 36 [.ref (B 5), .int fx, .int fy, .int tx, .int ty, .int t, .int (lnN fx fy tx ty), .int (nI j), xU, xU] [] h1 Q := by
    intro hm n9
    clear hP hS
    induction n9 with
    | zero =>
      intro j r9 h1 hj hf hP hS hF
      refine x_iload dX4_line_36 rfl ?_
      refine x_iload dX4_line_38 rfl ?_
      refine x_icmp_gt (tgt := 104) dX4_line_40 (by decide) (fun _ => ?_) (fun z9 => absurd (xgt_b hok.1 (by omega) (by omega)) z9)
      rw [LX4_line] at hf
      exact x_vret dX4_line_104 rfl (hQ h1 (hf ▸ hS) hF)
    | succ n9 ih =>
      intro j r9 h1 hj hf hP hS hF
      refine x_iload dX4_line_36 rfl ?_
      refine x_iload dX4_line_38 rfl ?_
      refine x_icmp_gt (tgt := 104) dX4_line_40 (by decide) (fun z9 => absurd z9 (xle_b hok.1 (by omega))) (fun _ => ?_)
      refine x_iload_n dX4_line_43 rfl ?_
      refine x_iconst (v := 2) dX4_line_44 (by decide) ?_
      refine x_iload dX4_line_45 rfl ?_
      refine x_imul dX4_line_47 ?_
      refine x_iload_n dX4_line_48 rfl ?_
      refine x_iload_n dX4_line_49 rfl ?_
      refine x_isub dX4_line_50 ?_
      refine x_imul dX4_line_51 ?_
      refine x_iload dX4_line_52 rfl ?_
      refine x_iadd dX4_line_54 ?_
      refine x_iconst (v := 2) dX4_line_55 (by decide) ?_
      refine x_iload dX4_line_56 rfl ?_
      refine x_imul dX4_line_58 ?_
      refine x_callS (M' := mJ9_floorDiv_7cf53) (mc' := 0) (ms' := 0) (As := [.int ((((2 : Int32) * (nI j)) * (tx - fx)) + (lnN fx fy tx ty)), .int ((2 : Int32) * (lnN fx fy tx ty))]) dX4_line_59 gX4_line_J9_floorDiv_7cf53 okJ9_floorDiv_7cf53 rfl rfl (Nat.le_of_ble_eq_true rfl) (Nat.le_of_ble_eq_true rfl) (Nat.le_refl _) (Nat.le_refl _) (Nat.le_refl _) ?_
      refine kJ9_floorDiv_7cf53 (xdv (xpos_of hok.1 hm)) ?_
      show xV _ _ _ _ _ _ _ _ _ _ _ _ _
      refine x_iadd dX4_line_62 ?_
      refine x_istore dX4_line_63 (by decide) rfl ?_
      refine x_iload_n dX4_line_65 rfl ?_
      refine x_iconst (v := 2) dX4_line_66 (by decide) ?_
      refine x_iload dX4_line_67 rfl ?_
      refine x_imul dX4_line_69 ?_
      refine x_iload dX4_line_70 rfl ?_
      refine x_iload_n dX4_line_72 rfl ?_
      refine x_isub dX4_line_73 ?_
      refine x_imul dX4_line_74 ?_
      refine x_iload dX4_line_75 rfl ?_
      refine x_iadd dX4_line_77 ?_
      refine x_iconst (v := 2) dX4_line_78 (by decide) ?_
      refine x_iload dX4_line_79 rfl ?_
      refine x_imul dX4_line_81 ?_
      refine x_callS (M' := mJ9_floorDiv_7cf53) (mc' := 0) (ms' := 0) (As := [.int ((((2 : Int32) * (nI j)) * (ty - fy)) + (lnN fx fy tx ty)), .int ((2 : Int32) * (lnN fx fy tx ty))]) dX4_line_82 gX4_line_J9_floorDiv_7cf53 okJ9_floorDiv_7cf53 rfl rfl (Nat.le_of_ble_eq_true rfl) (Nat.le_of_ble_eq_true rfl) (Nat.le_refl _) (Nat.le_refl _) (Nat.le_refl _) ?_
      refine kJ9_floorDiv_7cf53 (xdv (xpos_of hok.1 hm)) ?_
      show xV _ _ _ _ _ _ _ _ _ _ _ _ _
      refine x_iadd dX4_line_85 ?_
      refine x_istore dX4_line_86 (by decide) rfl ?_
      refine x_aload_n dX4_line_88 rfl ?_
      refine x_iload dX4_line_89 rfl ?_
      refine x_iload dX4_line_91 rfl ?_
      refine x_iload dX4_line_93 rfl ?_
      refine x_callV (M' := mX4_dot) (mc' := 0) (ms' := 0) (As := [.int (fx + (FJ9_floorDiv_7cf53 ((((2 : Int32) * (nI j)) * (tx - fx)) + (lnN fx fy tx ty)) ((2 : Int32) * (lnN fx fy tx ty)))), .int (fy + (FJ9_floorDiv_7cf53 ((((2 : Int32) * (nI j)) * (ty - fy)) + (lnN fx fy tx ty)) ((2 : Int32) * (lnN fx fy tx ty)))), .int t]) dX4_line_95 gX4_line_X4_dot okX4_dot rfl rfl hS.2.2.2.2.2.1 rfl (Nat.le_of_ble_eq_true rfl) (Nat.le_of_ble_eq_true rfl) (Nat.le_refl _) (Nat.le_refl _) (Nat.le_refl _) ?_
      refine kX4_dotA hP hS hB (hok.2.2.1 j (by omega) hm) (fun h9 hS9 hF9 => ?_)
      show xV _ _ _ _ _ _ _ _ _ _ _ _ _
      refine x_iinc (v := 1) dX4_line_98 rfl (by decide) (by decide) rfl ?_
      refine x_goto (tgt := 36) dX4_line_101 (by decide) ?_
      rw [LX4_line] at hf
      refine xV.sub (L' := [.ref (B 5), .int fx, .int fy, .int tx, .int ty, .int t, .int (lnN fx fy tx ty), .int (nI (j + 1)), xU, xU]) ⟨Or.inr rfl, Or.inr rfl, Or.inr rfl, Or.inr rfl, Or.inr rfl, Or.inr rfl, Or.inr rfl, Or.inr (congrArg Value.int (nI_1 j)), Or.inl rfl, Or.inl rfl, trivial⟩ (ih (j + 1) _ h9 (by omega) hf (hP.fr hF9 hn) hS9 (hF.tr hF9))
  refine x_iload_n dX4_line_0 rfl ?_
  refine x_iload_n dX4_line_1 rfl ?_
  refine x_isub dX4_line_2 ?_
  refine x_mabs dX4_line_3 (by decide +kernel) (by decide +kernel) (by decide +kernel) (by decide +kernel) (Nat.le_of_ble_eq_true rfl) (by omega) (Nat.le_refl _) (Nat.le_refl _) ?_
  refine x_iload dX4_line_6 rfl ?_
  refine x_iload_n dX4_line_8 rfl ?_
  refine x_isub dX4_line_9 ?_
  refine x_mabs dX4_line_10 (by decide +kernel) (by decide +kernel) (by decide +kernel) (by decide +kernel) (Nat.le_of_ble_eq_true rfl) (by omega) (Nat.le_refl _) (Nat.le_refl _) ?_
  refine x_mmax dX4_line_13 (by decide +kernel) (by decide +kernel) (by decide +kernel) (by decide +kernel) (Nat.le_of_ble_eq_true rfl) (by omega) (Nat.le_refl _) (Nat.le_refl _) ?_
  refine x_ls (st' := [.int (lnN fx fy tx ty)]) rfl rfl ?_
  refine x_istore dX4_line_16 (by decide) rfl ?_
  refine x_iload dX4_line_18 rfl ?_
  refine x_if_ne (tgt := 33) dX4_line_20 (by decide) (fun hc_20 => ?_) (fun hc_20 => ?_)
  · have hm : ¬ lnN fx fy tx ty = 0 := hc_20
    refine x_iconst (v := 0) dX4_line_33 (by decide) ?_
    refine x_istore dX4_line_34 (by decide) rfl ?_
    refine xV.sub (L' := [.ref (B 5), .int fx, .int fy, .int tx, .int ty, .int t, .int (lnN fx fy tx ty), .int (nI 0), xU, xU]) ⟨Or.inr rfl, Or.inr rfl, Or.inr rfl, Or.inr rfl, Or.inr rfl, Or.inr rfl, Or.inr rfl, Or.inr (congrArg Value.int nI_0.symm), Or.inl rfl, Or.inl rfl, trivial⟩ (loop hm (lnN fx fy tx ty).toNatClampNeg.succ 0 r h (by omega) (by rw [FX4_line, if_neg hc_20]) hP hS xfr.rf)
  · skip
    refine x_aload_n dX4_line_23 rfl ?_
    refine x_iload_n dX4_line_24 rfl ?_
    refine x_iload dX4_line_25 rfl ?_
    refine x_iload dX4_line_27 rfl ?_
    refine x_callV (M' := mX4_dot) (mc' := 0) (ms' := 0) (As := [.int tx, .int ty, .int t]) dX4_line_29 gX4_line_X4_dot okX4_dot rfl rfl hS.2.2.2.2.2.1 rfl (Nat.le_of_ble_eq_true rfl) (Nat.le_of_ble_eq_true rfl) (Nat.le_refl _) (Nat.le_refl _) (Nat.le_refl _) ?_
    refine kX4_dotA hP hS hB hok.2.1 (fun h9 hS9 hF9 => ?_)
    show xV _ _ _ _ _ _ _ _ _ _ _ _ _
    exact x_vret dX4_line_32 rfl (hQ h9 (by rw [FX4_line, if_pos hc_20]; exact hS9) hF9)
def barR (p : xPv) (r : xR2) (col row lf t : Int32) : xR2 := (upd r.1 (Int32.toNatClampNeg (FX1_cellAt p col row)) (if (r.1 (Int32.toNatClampNeg (FX1_cellAt p col row))) < (if (8 : Int32) < lf then (8 : Int32) else lf) then (if (8 : Int32) < lf then (8 : Int32) else lf) else (r.1 (Int32.toNatClampNeg (FX1_cellAt p col row)))), dHit r.2 (FX1_cellAt p col row) t)
def LX4_bar (p : xPv) (col t : Int32) : Nat → Int32 → xR2 → xR2
  | 0, _, r => r
  | m + 1, lf, r => if lf ≤ 0 then r else LX4_bar p col t m (lf + (-8)) (barR p r col (nI m) lf t)
def FX4_bar (p : xPv) (r : xR2) (x y t : Int32) : xR2 := LX4_bar p (FX1_columnOf p x) t (p.2.1).toNatClampNeg (2 * (y + 1)) r
def barOk (p : xPv) (x : Int32) : Prop := p.2.1 = nI (p.2.1).toNatClampNeg ∧ (p.2.1).toNatClampNeg < 1000 ∧ ∀ m : Nat, m < (p.2.1).toNatClampNeg → vp_in (FX1_cellAt p (FX1_columnOf p x) (nI m)) 640
theorem xneg1 (n : Nat) : nI n + (-1) = nI n - 1 := by rw [Int32.sub_eq_add_neg]
theorem barS {G : xG} {pg : Nat} {B : Nat → Nat} {I : xSi} {V : Nat → Nat → Int32} {r : xR2} {h : xH} {p : xPv} {col row lf t : Int32} (hS : xSer G B pg I (vrow V r) h) (hB : ∀ {i j : Nat}, i ≠ j → B i ≠ B j) : xSer G B pg I (vrow V (barR p r col row lf t)) (xup (xup h (B 7) (xRi G 640 (dHit (vrow V r 7) (FX1_cellAt p col row) t))) (B 6) (xRi G 640 (barR p r col row lf t).1)) := by
  have h1 := (hS.up7 hB (dHit r.2 (FX1_cellAt p col row) t)).up6 hB (barR p r col row lf t).1
  have e1 : va_up (va_up (vrow V r) 7 (dHit r.2 (FX1_cellAt p col row) t)) 6 (barR p r col row lf t).1 = vrow V (barR p r col row lf t) := by
    funext q
    simp only [vrow, va_up]
    by_cases h6 : q = 6
    · subst h6; simp
    · by_cases h7 : q = 7
      · subst h7; simp [barR]
      · simp [h6, h7]
  rw [e1] at h1
  exact h1
set_option maxHeartbeats 4000000 in
set_option maxRecDepth 100000 in
theorem kX4_bar {G : xG} {l : Launch} {d : Nat} {h : xH} {Q : Option Value → xH → Prop} {pg sx sy : Nat} {p : xPv} {B : Nat → Nat} {I : xSi} {V : Nat → Nat → Int32} {r : xR2} {x y t : Int32} (hP : xPg pg sx sy p h) (hS : xSer G B pg I (vrow V r) h) (hB : ∀ {i j : Nat}, i ≠ j → B i ≠ B j) (hn : ∀ i, B i ≠ pg ∧ B i ≠ sx ∧ B i ≠ sy) (hok : barOk p x) (hQ : ∀ h', xSer G B pg I (vrow V (FX4_bar p r x y t)) h' → xfr B h h' → Q none h') : xV G l mX4_bar (d + 1) 0 0 0 0 0 [.ref (B 5), .int x, .int y, .int t, xU, xU, xU, xU] [] h Q := by
  have loop : ∀ (n9 : Nat) (lf : Int32) (r9 : xR2) (h1 : xH), n9 ≤ (p.2.1).toNatClampNeg → LX4_bar p (FX1_columnOf p x) t n9 lf r9 = FX4_bar p r x y t → xPg pg sx sy p h1 → xSer G B pg I (vrow V r9) h1 → xfr B h h1 → xV G l mX4_bar (d + 1) 0 0 0 0 28 [.ref (B 5), .int x, .int y, .int t, .int (FX1_columnOf p x), .int lf, .int (nI n9 - 1), xU] [] h1 Q := by
    have hrr := hok.2.1
    intro n9
    clear hP hS
    induction n9 with
    | zero =>
      intro lf r9 h1 hj hf hP hS hF
      refine x_iload dX4_bar_28 rfl ?_
      refine x_if_lt (tgt := 94) dX4_bar_30 (by decide) (fun _ => ?_) (fun z9 => absurd (by decide) z9)
      rw [LX4_bar] at hf
      exact x_vret dX4_bar_94 rfl (hQ h1 (hf ▸ hS) hF)
    | succ n9 ih =>
      intro lf r9 h1 hj hf hP hS hF
      refine xV.sub (L' := [.ref (B 5), .int x, .int y, .int t, .int (FX1_columnOf p x), .int lf, .int (nI n9), xU]) ⟨Or.inr rfl, Or.inr rfl, Or.inr rfl, Or.inr rfl, Or.inr rfl, Or.inr rfl, Or.inr (congrArg Value.int (nI_pred n9)), Or.inl rfl, trivial⟩ ?_
      refine x_iload dX4_bar_28 rfl ?_
      refine x_if_lt (tgt := 94) dX4_bar_30 (by decide) (fun z9 => absurd z9 (nI_pos (by omega))) (fun _ => ?_)
      rw [LX4_bar] at hf
      refine x_iload dX4_bar_33 rfl ?_
      refine x_if_le (tgt := 94) dX4_bar_35 (by decide) (fun hc_35 => ?_) (fun hc_35 => ?_)
      · rw [if_pos hc_35] at hf
        exact x_vret dX4_bar_94 rfl (hQ h1 (hf ▸ hS) hF)
      · refine x_aload_n dX4_bar_38 rfl ?_
        refine x_get 0 dX4_bar_39 hS.2.2.2.2.2.1 rfl (by decide) (by decide +kernel) rfl ?_
        refine x_iload dX4_bar_42 rfl ?_
        refine x_iload dX4_bar_44 rfl ?_
        refine x_callV (M' := mX1_cellAt) (mc' := 0) (ms' := 0) (As := [.int (FX1_columnOf p x), .int (nI n9)]) dX4_bar_46 gX4_bar_X1_cellAt okX1_cellAt rfl rfl hP.1 rfl (Nat.le_of_ble_eq_true rfl) (Nat.le_of_ble_eq_true rfl) (Nat.le_refl _) (Nat.le_refl _) (Nat.le_refl _) ?_
        refine kX1_cellAt hP ?_
        show xV _ _ _ _ _ _ _ _ _ _ _ _ _
        refine x_istore dX4_bar_49 (by decide) rfl ?_
        refine x_aload_n dX4_bar_51 rfl ?_
        refine x_iload dX4_bar_52 rfl ?_
        refine x_iload_n dX4_bar_54 rfl ?_
        refine x_callV (M' := mX4_touch) (mc' := 0) (ms' := 0) (As := [.int (FX1_cellAt p (FX1_columnOf p x) (nI n9)), .int t]) dX4_bar_55 gX4_bar_X4_touch okX4_touch rfl rfl hS.2.2.2.2.2.1 rfl (Nat.le_of_ble_eq_true rfl) (Nat.le_of_ble_eq_true rfl) (Nat.le_refl _) (Nat.le_refl _) (Nat.le_refl _) ?_
        refine kX4_touchI hS (hok.2.2 n9 (by omega)) ?_
        show xV _ _ _ _ _ _ _ _ _ _ _ _ _
        refine x_if_eq (tgt := 85) dX4_bar_58 (by decide) (fun z9 => absurd z9 (by decide)) (fun _ => ?_)
        refine x_aload_n dX4_bar_61 rfl ?_
        refine x_get 1 dX4_bar_62 (xup_k (hB (by decide)) hS.2.2.2.2.2.1) rfl (by decide) (by decide +kernel) rfl ?_
        refine x_iload dX4_bar_65 rfl ?_
        refine x_aload_n dX4_bar_67 rfl ?_
        refine x_get 1 dX4_bar_68 (xup_k (hB (by decide)) hS.2.2.2.2.2.1) rfl (by decide) (by decide +kernel) rfl ?_
        refine x_iload dX4_bar_71 rfl ?_
        refine x_iald dX4_bar_73 (xup_k (hB (by decide)) hS.2.2.2.2.2.2.1) (hok.2.2 n9 (by omega)) ?_
        refine x_iload dX4_bar_74 rfl ?_
        refine x_bipush (v := 8) dX4_bar_76 (by decide) ?_
        refine x_mmin dX4_bar_78 (by decide +kernel) (by decide +kernel) (by decide +kernel) (by decide +kernel) (Nat.le_of_ble_eq_true rfl) (by omega) (Nat.le_refl _) (Nat.le_refl _) ?_
        refine x_mmax dX4_bar_81 (by decide +kernel) (by decide +kernel) (by decide +kernel) (by decide +kernel) (Nat.le_of_ble_eq_true rfl) (by omega) (Nat.le_refl _) (Nat.le_refl _) ?_
        refine x_iast dX4_bar_84 (xup_k (hB (by decide)) hS.2.2.2.2.2.2.1) (hok.2.2 n9 (by omega)) ?_
        refine x_iinc (v := (-8)) dX4_bar_85 rfl (by decide) (by decide) rfl ?_
        refine x_iinc (v := (-1)) dX4_bar_88 rfl (by decide) (by decide) rfl ?_
        refine x_goto (tgt := 28) dX4_bar_91 (by decide) ?_
        rw [if_neg hc_35] at hf
        refine xV.sub (L' := [.ref (B 5), .int x, .int y, .int t, .int (FX1_columnOf p x), .int (lf + (-8)), .int (nI n9 - 1), xU]) ⟨Or.inr rfl, Or.inr rfl, Or.inr rfl, Or.inr rfl, Or.inr rfl, Or.inr rfl, Or.inr (congrArg Value.int (xneg1 n9)), Or.inl rfl, trivial⟩ (ih (lf + (-8)) _ _ (by omega) hf ((hP.fr xfr.u7 hn).fr xfr.u6 hn) (barS hS hB) (hF.tr (xfr.u7.tr xfr.u6)))
  refine x_aload_n dX4_bar_0 rfl ?_
  refine x_get 0 dX4_bar_1 hS.2.2.2.2.2.1 rfl (by decide) (by decide +kernel) rfl ?_
  refine x_iload_n dX4_bar_4 rfl ?_
  refine x_callV (M' := mX1_columnOf) (mc' := 0) (ms' := 0) (As := [.int x]) dX4_bar_5 gX4_bar_X1_columnOf okX1_columnOf rfl rfl hP.1 rfl (Nat.le_of_ble_eq_true rfl) (Nat.le_of_ble_eq_true rfl) (Nat.le_refl _) (Nat.le_refl _) (Nat.le_refl _) ?_
  refine kX1_columnOf hP ?_
  show xV _ _ _ _ _ _ _ _ _ _ _ _ _
  refine x_istore dX4_bar_8 (by decide) rfl ?_
  refine x_iconst (v := 2) dX4_bar_10 (by decide) ?_
  refine x_iload_n dX4_bar_11 rfl ?_
  refine x_iconst (v := 1) dX4_bar_12 (by decide) ?_
  refine x_iadd dX4_bar_13 ?_
  refine x_imul dX4_bar_14 ?_
  refine x_istore dX4_bar_15 (by decide) rfl ?_
  refine x_aload_n dX4_bar_17 rfl ?_
  refine x_get 0 dX4_bar_18 hS.2.2.2.2.2.1 rfl (by decide) (by decide +kernel) rfl ?_
  refine x_get 1 dX4_bar_21 hP.1 rfl (by decide) (by decide +kernel) rfl ?_
  refine x_iconst (v := 1) dX4_bar_24 (by decide) ?_
  refine x_isub dX4_bar_25 ?_
  refine x_istore dX4_bar_26 (by decide) rfl ?_
  refine xV.sub (L' := [.ref (B 5), .int x, .int y, .int t, .int (FX1_columnOf p x), .int (2 * (y + 1)), .int (nI (p.2.1).toNatClampNeg - 1), xU]) ⟨Or.inr rfl, Or.inr rfl, Or.inr rfl, Or.inr rfl, Or.inr rfl, Or.inr rfl, Or.inr (by rw [← hok.1]), Or.inl rfl, trivial⟩ (loop (p.2.1).toNatClampNeg _ r h (Nat.le_refl _) rfl hP hS xfr.rf)
