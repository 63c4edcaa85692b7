def vrM (V : Nat → Nat → Int32) (r : xR2) : Nat → Nat → Int32 := va_up (va_up V 23 r.1) 24 r.2
theorem vrM_up {V : Nat → Nat → Int32} {r : xR2} {f g : Nat → Int32} : va_up (va_up (vrM V r) 23 f) 24 g = vrM V (f, g) := by
  funext q
  simp only [vrM, va_up]
  by_cases h6 : q = 23
  · subst h6; simp
  · by_cases h7 : q = 24
    · subst h7; simp
    · simp [h6, h7]
theorem vrM_self (V : Nat → Nat → Int32) : vrM V (V 23, V 24) = V := by
  funext q
  simp only [vrM, va_up]
  by_cases h6 : q = 23
  · subst h6; simp
  · by_cases h7 : q = 24
    · subst h7; simp
    · simp [h6, h7]
theorem xfM.rf {A : Nat → Nat} {h : xH} : xfM A h h := fun _ _ => rfl
theorem xfM.tr {A : Nat → Nat} {h h1 h2 : xH} (a : xfM A h h1) (b : xfM A h1 h2) : xfM A h h2 := fun q e => (b q e).trans (a q e)
def mcell (I : xMi) (s x y : Int32) : Int32 := (640 * s) + ((((I.2.1 - 1) - (y / 4)) * I.1) + (x / 2))
def mbit (x y : Int32) : Int32 := (if ((3 : Int32) - (y - y / (4 : Int32) * (4 : Int32))) = (3 : Int32) then ((64 : Int32) <<< ((x - x / (2 : Int32) * (2 : Int32)) &&& 31)) else ((1 : Int32) <<< ((((3 : Int32) - (y - y / (4 : Int32) * (4 : Int32))) + ((3 : Int32) * (x - x / (2 : Int32) * (2 : Int32)))) &&& 31)))
def mdotR (I : xMi) (r : xR2) (s q x y : Int32) : xR2 :=
  (upd r.1 (Int32.toNatClampNeg (mcell I s x y)) ((if (10240 : Int32) ≤ r.1 (Int32.toNatClampNeg (mcell I s x y)) then r.1 (Int32.toNatClampNeg (mcell I s x y)) else (10240 : Int32)) ||| mbit x y), dHit r.2 (mcell I s x y) q)
theorem kX6_dotA {G : xG} {l : Launch} {d : Nat} {h : xH} {Q : Option Value → xH → Prop} {A : Nat → Nat} {I : xMi} {V : Nat → Nat → Int32} {r : xR2} {s q x y : Int32} (hM : xMod G A I (vrM V r) h) (hA : ∀ {i j : Nat}, i ≠ j → A i ≠ A j) (hq : vp_in (mcell I s x y) 3840) (hQ : ∀ h', xMod G A I (vrM V (mdotR I r s q x y)) h' → xfM A h h' → Q none h') : xV G l mX6_dot (d + 1) 0 0 0 0 0 [.ref (A 0), .int s, .int q, .int x, .int y, xU, xU, xU] [] h Q := by
  refine kX6_dot hM hA hq (fun h' hM' hF' => hQ h' ?_ hF')
  rw [vrM_up] at hM'
  exact hM'
def mlnN (fx fy tx ty : Int32) : Int32 := (if (if tx ≤ fx then (fx - tx) else (tx - fx)) ≤ (if ty ≤ fy then (fy - ty) else (ty - fy)) then (if ty ≤ fy then (fy - ty) else (ty - fy)) else (if tx ≤ fx then (fx - tx) else (tx - fx)))
def mlnD (a b m k : Int32) : Int32 := if m = 0 then 0 else FX6_floor (((2 * k) * (b - a)) + m) (2 * m)
def LX6_line (I : xMi) (s q fx fy tx ty m : Int32) : Nat → Nat → xR2 → xR2
  | 0, _, r => r
  | n9 + 1, j, r => LX6_line I s q fx fy tx ty m n9 (j + 1) (mdotR I r s q (fx + mlnD fx tx m (nI j)) (fy + mlnD fy ty m (nI j)))
def FX6_lineOf (I : xMi) (r : xR2) (s q fx fy tx ty : Int32) : xR2 := LX6_line I s q fx fy tx ty (mlnN fx fy tx ty) ((mlnN fx fy tx ty).toNatClampNeg + 1) 0 r
def mlnOk (I : xMi) (s fx fy tx ty : Int32) : Prop := ¬ mlnN fx fy tx ty < 0 ∧ (mlnN fx fy tx ty).toNatClampNeg < 1000 ∧ ∀ j : Nat, j ≤ (mlnN fx fy tx ty).toNatClampNeg → vp_in (mcell I s (fx + mlnD fx tx (mlnN fx fy tx ty) (nI j)) (fy + mlnD fy ty (mlnN fx fy tx ty) (nI j))) 3840
set_option maxHeartbeats 4000000 in
set_option maxRecDepth 100000 in
theorem kX6_lineOf {G : xG} {l : Launch} {d : Nat} {h : xH} {Q : Option Value → xH → Prop} {A : Nat → Nat} {I : xMi} {V : Nat → Nat → Int32} {r : xR2} {s q fx fy tx ty : Int32} (hM : xMod G A I (vrM V r) h) (hA : ∀ {i j : Nat}, i ≠ j → A i ≠ A j) (hok : mlnOk I s fx fy tx ty) (hQ : ∀ h', xMod G A I (vrM V (FX6_lineOf I r s q fx fy tx ty)) h' → xfM A h h' → Q none h') : xV G l mX6_lineOf (d + 2) 0 0 0 0 0 [.ref (A 0), .int s, .int q, .int fx, .int fy, .int tx, .int ty, xU, xU, xU, xU, xU, xU] [] h Q := by
  have h31 := hok.2.1
  have loop : ∀ (n9 j : Nat) (r9 : xR2) (h1 : xH), j + n9 = (mlnN fx fy tx ty).toNatClampNeg + 1 → LX6_line I s q fx fy tx ty (mlnN fx fy tx ty) n9 j r9 = FX6_lineOf I r s q fx fy tx ty → xMod G A I (vrM V r9) h1 → xfM A h h1 → xV G l mX6_lineOf (d + 2) 0 0 0 0 60 [.ref (A 0), .int s, .int q, .int fx, .int fy, .int tx, .int ty, xU, xU, .int (mlnN fx fy tx ty), .int (nI j), xU, xU] [] h1 Q := by
    intro n9
    clear hM
    induction n9 with
    | zero =>
      intro j r9 h1 hj hf hM hF
      refine x_iload dX6_lineOf_60 rfl ?_
      refine x_iload dX6_lineOf_62 rfl ?_
      refine x_icmp_gt (tgt := 149) dX6_lineOf_64 (by decide) (fun _ => ?_) (fun z9 => absurd (xgt_b hok.1 (by omega) (by omega)) z9)
      rw [LX6_line] at hf
      exact x_vret dX6_lineOf_149 rfl (hQ h1 (hf ▸ hM) hF)
    | succ n9 ih =>
      intro j r9 h1 hj hf hM hF
      refine x_iload dX6_lineOf_60 rfl ?_
      refine x_iload dX6_lineOf_62 rfl ?_
      refine x_icmp_gt (tgt := 149) dX6_lineOf_64 (by decide) (fun z9 => absurd z9 (xle_b hok.1 (by omega))) (fun _ => ?_)
      refine x_iload dX6_lineOf_67 rfl ?_
      have J95 : xV G l mX6_lineOf (d + 2) 0 0 0 0 95 [.ref (A 0), .int s, .int q, .int fx, .int fy, .int tx, .int ty, xU, xU, .int (mlnN fx fy tx ty), .int (nI j), xU, xU] [.int (if (mlnN fx fy tx ty) = 0 then (0 : Int32) else (FX6_floor ((((2 : Int32) * (nI j)) * (tx - fx)) + (mlnN fx fy tx ty)) ((2 : Int32) * (mlnN fx fy tx ty))))] h1 Q := by
        refine x_ls (st' := [.int (mlnD fx tx (mlnN fx fy tx ty) (nI j))]) rfl rfl ?_
        refine x_istore dX6_lineOf_95 (by decide) rfl ?_
        refine x_iload dX6_lineOf_97 rfl ?_
        have J126 : xV G l mX6_lineOf (d + 2) 0 0 0 0 126 [.ref (A 0), .int s, .int q, .int fx, .int fy, .int tx, .int ty, xU, xU, .int (mlnN fx fy tx ty), .int (nI j), .int (mlnD fx tx (mlnN fx fy tx ty) (nI j)), xU] [.int (if (mlnN fx fy tx ty) = 0 then (0 : Int32) else (FX6_floor ((((2 : Int32) * (nI j)) * (ty - fy)) + (mlnN fx fy tx ty)) ((2 : Int32) * (mlnN fx fy tx ty))))] h1 Q := by
          refine x_ls (st' := [.int (mlnD fy ty (mlnN fx fy tx ty) (nI j))]) rfl rfl ?_
          refine x_istore dX6_lineOf_126 (by decide) rfl ?_
          refine x_aload_n dX6_lineOf_128 rfl ?_
          refine x_iload_n dX6_lineOf_129 rfl ?_
          refine x_iload_n dX6_lineOf_130 rfl ?_
          refine x_iload_n dX6_lineOf_131 rfl ?_
          refine x_iload dX6_lineOf_132 rfl ?_
          refine x_iadd dX6_lineOf_134 ?_
          refine x_iload dX6_lineOf_135 rfl ?_
          refine x_iload dX6_lineOf_137 rfl ?_
          refine x_iadd dX6_lineOf_139 ?_
          refine x_callV (M' := mX6_dot) (mc' := 0) (ms' := 0) (As := [.int s, .int q, .int (fx + (mlnD fx tx (mlnN fx fy tx ty) (nI j))), .int (fy + (mlnD fy ty (mlnN fx fy tx ty) (nI j)))]) dX6_lineOf_140 gX6_lineOf_X6_dot okX6_dot rfl rfl hM.1 rfl (Nat.le_of_ble_eq_true rfl) (Nat.le_of_ble_eq_true rfl) (Nat.le_refl _) (Nat.le_refl _) (Nat.le_refl _) ?_
          refine kX6_dotA hM hA (hok.2.2 j (by omega)) (fun h9 hM9 hF9 => ?_)
          show xV _ _ _ _ _ _ _ _ _ _ _ _ _
          refine x_iinc (v := 1) dX6_lineOf_143 rfl (by decide) (by decide) rfl ?_
          refine x_goto (tgt := 60) dX6_lineOf_146 (by decide) ?_
          rw [LX6_line] at hf
          refine xV.sub (L' := [.ref (A 0), .int s, .int q, .int fx, .int fy, .int tx, .int ty, xU, xU, .int (mlnN fx fy tx ty), .int (nI (j + 1)), xU, xU]) ⟨Or.inr rfl, Or.inr rfl, Or.inr rfl, Or.inr rfl, Or.inr rfl, Or.inr rfl, Or.inr rfl, Or.inl rfl, Or.inl rfl, Or.inr rfl, Or.inr (congrArg Value.int (nI_1 j)), Or.inl rfl, Or.inl rfl, trivial⟩ (ih (j + 1) _ h9 (by omega) hf hM9 (hF.tr hF9))
        refine x_if_ne (tgt := 106) dX6_lineOf_99 (by decide) (fun hc_99 => ?_) (fun hc_99 => ?_)
        · refine x_iconst (v := 2) dX6_lineOf_106 (by decide) ?_
          refine x_iload dX6_lineOf_107 rfl ?_
          refine x_imul dX6_lineOf_109 ?_
          refine x_iload dX6_lineOf_110 rfl ?_
          refine x_iload dX6_lineOf_112 rfl ?_
          refine x_isub dX6_lineOf_114 ?_
          refine x_imul dX6_lineOf_115 ?_
          refine x_iload dX6_lineOf_116 rfl ?_
          refine x_iadd dX6_lineOf_118 ?_
          refine x_iconst (v := 2) dX6_lineOf_119 (by decide) ?_
          refine x_iload dX6_lineOf_120 rfl ?_
          refine x_imul dX6_lineOf_122 ?_
          refine x_callS (M' := mX6_floor) (mc' := 0) (ms' := 0) (As := [.int ((((2 : Int32) * (nI j)) * (ty - fy)) + (mlnN fx fy tx ty)), .int ((2 : Int32) * (mlnN fx fy tx ty))]) dX6_lineOf_123 gX6_lineOf_X6_floor okX6_floor rfl rfl (Nat.le_of_ble_eq_true rfl) (Nat.le_of_ble_eq_true rfl) (Nat.le_refl _) (Nat.le_refl _) (Nat.le_refl _) ?_
          refine kX6_floor (xdv (xpos_of hok.1 hc_99)) ?_
          show xV _ _ _ _ _ _ _ _ _ _ _ _ _
          exact x_ls rfl (by first | rfl | (rw [if_neg hc_99] <;> rfl) | (simp only [if_neg hc_99]; rfl) | (simp only [if_neg hc_99])) J126
        · refine x_iconst (v := 0) dX6_lineOf_102 (by decide) ?_
          refine x_goto (tgt := 126) dX6_lineOf_103 (by decide) ?_
          exact x_ls rfl (by first | rfl | (rw [if_pos hc_99] <;> rfl) | (simp only [if_pos hc_99]; rfl) | (simp only [if_pos hc_99])) J126
      refine x_if_ne (tgt := 76) dX6_lineOf_69 (by decide) (fun hc_69 => ?_) (fun hc_69 => ?_)
      · refine x_iconst (v := 2) dX6_lineOf_76 (by decide) ?_
        refine x_iload dX6_lineOf_77 rfl ?_
        refine x_imul dX6_lineOf_79 ?_
        refine x_iload dX6_lineOf_80 rfl ?_
        refine x_iload_n dX6_lineOf_82 rfl ?_
        refine x_isub dX6_lineOf_83 ?_
        refine x_imul dX6_lineOf_84 ?_
        refine x_iload dX6_lineOf_85 rfl ?_
        refine x_iadd dX6_lineOf_87 ?_
        refine x_iconst (v := 2) dX6_lineOf_88 (by decide) ?_
        refine x_iload dX6_lineOf_89 rfl ?_
        refine x_imul dX6_lineOf_91 ?_
        refine x_callS (M' := mX6_floor) (mc' := 0) (ms' := 0) (As := [.int ((((2 : Int32) * (nI j)) * (tx - fx)) + (mlnN fx fy tx ty)), .int ((2 : Int32) * (mlnN fx fy tx ty))]) dX6_lineOf_92 gX6_lineOf_X6_floor okX6_floor rfl rfl (Nat.le_of_ble_eq_true rfl) (Nat.le_of_ble_eq_true rfl) (Nat.le_refl _) (Nat.le_refl _) (Nat.le_refl _) ?_
        refine kX6_floor (xdv (xpos_of hok.1 hc_69)) ?_
        show xV _ _ _ _ _ _ _ _ _ _ _ _ _
        exact x_ls rfl (by first | rfl | (rw [if_neg hc_69] <;> rfl) | (simp only [if_neg hc_69]; rfl) | (simp only [if_neg hc_69])) J95
      · refine x_iconst (v := 0) dX6_lineOf_72 (by decide) ?_
        refine x_goto (tgt := 95) dX6_lineOf_73 (by decide) ?_
        exact x_ls rfl (by first | rfl | (rw [if_pos hc_69] <;> rfl) | (simp only [if_pos hc_69]; rfl) | (simp only [if_pos hc_69])) J95
  refine x_iload dX6_lineOf_0 rfl ?_
  refine x_iload_n dX6_lineOf_2 rfl ?_
  have J17 : xV G l mX6_lineOf (d + 2) 0 0 0 0 17 [.ref (A 0), .int s, .int q, .int fx, .int fy, .int tx, .int ty, xU, xU, xU, xU, xU, xU] [.int (if tx ≤ fx then (fx - tx) else (tx - fx))] h Q := by
    refine x_istore dX6_lineOf_17 (by decide) rfl ?_
    refine x_iload dX6_lineOf_19 rfl ?_
    refine x_iload dX6_lineOf_21 rfl ?_
    have J39 : xV G l mX6_lineOf (d + 2) 0 0 0 0 39 [.ref (A 0), .int s, .int q, .int fx, .int fy, .int tx, .int ty, .int (if tx ≤ fx then (fx - tx) else (tx - fx)), xU, xU, xU, xU, xU] [.int (if ty ≤ fy then (fy - ty) else (ty - fy))] h Q := by
      refine x_istore dX6_lineOf_39 (by decide) rfl ?_
      refine x_iload dX6_lineOf_41 rfl ?_
      refine x_iload dX6_lineOf_43 rfl ?_
      have J55 : xV G l mX6_lineOf (d + 2) 0 0 0 0 55 [.ref (A 0), .int s, .int q, .int fx, .int fy, .int tx, .int ty, .int (if tx ≤ fx then (fx - tx) else (tx - fx)), .int (if ty ≤ fy then (fy - ty) else (ty - fy)), xU, xU, xU, xU] [.int (if (if tx ≤ fx then (fx - tx) else (tx - fx)) ≤ (if ty ≤ fy then (fy - ty) else (ty - fy)) then (if ty ≤ fy then (fy - ty) else (ty - fy)) else (if tx ≤ fx then (fx - tx) else (tx - fx)))] h Q := by
        refine x_ls (st' := [.int (mlnN fx fy tx ty)]) rfl rfl ?_
        refine x_istore dX6_lineOf_55 (by decide) rfl ?_
        refine x_iconst (v := 0) dX6_lineOf_57 (by decide) ?_
        refine x_istore dX6_lineOf_58 (by decide) rfl ?_
        refine xV.sub (L' := [.ref (A 0), .int s, .int q, .int fx, .int fy, .int tx, .int ty, xU, xU, .int (mlnN fx fy tx ty), .int (nI 0), xU, xU]) ⟨Or.inr rfl, Or.inr rfl, Or.inr rfl, Or.inr rfl, Or.inr rfl, Or.inr rfl, Or.inr rfl, Or.inl rfl, Or.inl rfl, Or.inr rfl, Or.inr (congrArg Value.int nI_0.symm), Or.inl rfl, Or.inl rfl, trivial⟩ (loop ((mlnN fx fy tx ty).toNatClampNeg + 1) 0 r h (by omega) rfl hM xfM.rf)
      refine x_icmp_le (tgt := 53) dX6_lineOf_45 (by decide) (fun hc_45 => ?_) (fun hc_45 => ?_)
      · refine x_iload dX6_lineOf_53 rfl ?_
        exact x_ls rfl (by first | rfl | (rw [if_pos hc_45] <;> rfl) | (simp only [if_pos hc_45]; rfl) | (simp only [if_pos hc_45])) J55
      · refine x_iload dX6_lineOf_48 rfl ?_
        refine x_goto (tgt := 55) dX6_lineOf_50 (by decide) ?_
        exact x_ls rfl (by first | rfl | (rw [if_neg hc_45] <;> rfl) | (simp only [if_neg hc_45]; rfl) | (simp only [if_neg hc_45])) J55
    refine x_icmp_le (tgt := 34) dX6_lineOf_23 (by decide) (fun hc_23 => ?_) (fun hc_23 => ?_)
    · refine x_iload dX6_lineOf_34 rfl ?_
      refine x_iload dX6_lineOf_36 rfl ?_
      refine x_isub dX6_lineOf_38 ?_
      exact x_ls rfl (by first | rfl | (rw [if_pos hc_23] <;> rfl) | (simp only [if_pos hc_23]; rfl) | (simp only [if_pos hc_23])) J39
    · refine x_iload dX6_lineOf_26 rfl ?_
      refine x_iload dX6_lineOf_28 rfl ?_
      refine x_isub dX6_lineOf_30 ?_
      refine x_goto (tgt := 39) dX6_lineOf_31 (by decide) ?_
      exact x_ls rfl (by first | rfl | (rw [if_neg hc_23] <;> rfl) | (simp only [if_neg hc_23]; rfl) | (simp only [if_neg hc_23])) J39
  refine x_icmp_le (tgt := 13) dX6_lineOf_3 (by decide) (fun hc_3 => ?_) (fun hc_3 => ?_)
  · refine x_iload_n dX6_lineOf_13 rfl ?_
    refine x_iload dX6_lineOf_14 rfl ?_
    refine x_isub dX6_lineOf_16 ?_
    exact x_ls rfl (by first | rfl | (rw [if_pos hc_3] <;> rfl) | (simp only [if_pos hc_3]; rfl) | (simp only [if_pos hc_3])) J17
  · refine x_iload dX6_lineOf_6 rfl ?_
    refine x_iload_n dX6_lineOf_8 rfl ?_
    refine x_isub dX6_lineOf_9 ?_
    refine x_goto (tgt := 17) dX6_lineOf_10 (by decide) ?_
    exact x_ls rfl (by first | rfl | (rw [if_neg hc_3] <;> rfl) | (simp only [if_neg hc_3]; rfl) | (simp only [if_neg hc_3])) J17
