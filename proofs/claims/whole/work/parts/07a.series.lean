abbrev xPv : Type := Int32 × Int32 × xS × xS
abbrev xPo (sx sy : Nat) (p : xPv) : va_E := xOb 2 [.int p.1, .int p.2.1, .ref sx, .ref sy]
def xPg (pg sx sy : Nat) (p : xPv) (h : xH) : Prop := h pg = some (xPo sx sy p) ∧ h sx = some (xSc p.2.2.1) ∧ h sy = some (xSc p.2.2.2)
/-- a series: MARK, LAYER, SIGN, how many points, stale; B tells where its cells lie -/
abbrev xSi : Type := Int32 × Int32 × Int32 × Int32 × Int32
abbrev xSo (B : Nat → Nat) (pg : Nat) (I : xSi) : va_E := xOb 4 [.int I.1, .int I.2.1, .int I.2.2.1, .int I.2.2.2.1, .int I.2.2.2.2, .ref (B 1), .ref (B 2), .ref (B 3), .ref (B 4), .ref pg, .ref (B 5)]
def xSer (G : xG) (B : Nat → Nat) (pg : Nat) (I : xSi) (V : Nat → Nat → Int32) (h : xH) : Prop := h (B 0) = some (xSo B pg I) ∧ h (B 1) = some (xRi G 24 (V 1)) ∧ h (B 2) = some (xRi G 24 (V 2)) ∧ h (B 3) = some (xRi G 24 (V 3)) ∧ h (B 4) = some (xRz G 24 (V 4)) ∧ h (B 5) = some (xOb 5 [.ref pg, .ref (B 6), .ref (B 7)]) ∧ h (B 6) = some (xRi G 640 (V 6)) ∧ h (B 7) = some (xRi G 640 (V 7))
def FX1_has (p : xPv) (x y : Int32) : Int32 := (if x < 0 then (0 : Int32) else (if p.1 ≤ x then (0 : Int32) else (if y < 0 then (0 : Int32) else (if p.2.1 ≤ y then (0 : Int32) else (1 : Int32)))))
theorem bFX1_has {p : xPv} {x y : Int32} : FX1_has p x y = 0 ∨ FX1_has p x y = 1 := by
  unfold FX1_has
  repeat' (first | with_reducible exact Or.inl rfl | with_reducible exact Or.inr rfl | with_reducible exact bFX5_within | with_reducible exact bFX2_holds | split)
set_option maxHeartbeats 4000000 in
set_option maxRecDepth 100000 in
theorem kX1_has {G : xG} {l : Launch} {d : Nat} {h : xH} {Q : Option Value → xH → Prop} {pg sx sy : Nat} {p : xPv} {x y : Int32} (hP : xPg pg sx sy p h)  (hQ : Q (some (.int (FX1_has p x y))) h) : xV G l mX1_has d 0 0 0 0 0 [.ref pg, .int x, .int y] [] h Q := by
  refine x_iload_n dX1_has_0 rfl ?_
  have J29 : xV G l mX1_has d 0 0 0 0 29 [.ref pg, .int x, .int y] [.int (if x < 0 then (0 : Int32) else (if p.1 ≤ x then (0 : Int32) else (if y < 0 then (0 : Int32) else (if p.2.1 ≤ y then (0 : Int32) else (1 : Int32)))))] h Q := by
    exact x_zret dX1_has_29 rfl (nbz (by repeat' (first | with_reducible exact Or.inl rfl | with_reducible exact Or.inr rfl | with_reducible exact bFX5_within | with_reducible exact bFX2_holds | split))) (xri (by unfold FX1_has; rfl) hQ)
  refine x_if_lt (tgt := 28) dX1_has_1 (by decide) (fun hc_1 => ?_) (fun hc_1 => ?_)
  · refine x_iconst (v := 0) dX1_has_28 (by decide) ?_
    exact x_ls rfl (by first | rfl | (rw [if_pos hc_1] <;> rfl) | (simp only [if_pos hc_1]; rfl) | (simp only [if_pos hc_1])) J29
  · refine x_iload_n dX1_has_4 rfl ?_
    refine x_aload_n dX1_has_5 rfl ?_
    refine x_get 0 dX1_has_6 hP.1 rfl (by decide) (by decide +kernel) rfl ?_
    refine x_icmp_ge (tgt := 28) dX1_has_9 (by decide) (fun hc_9 => ?_) (fun hc_9 => ?_)
    · refine x_iconst (v := 0) dX1_has_28 (by decide) ?_
      exact x_ls rfl (by first | rfl | (rw [if_neg hc_1, if_pos hc_9] <;> rfl) | (simp only [if_neg hc_1, if_pos hc_9]; rfl) | (simp only [if_neg hc_1, if_pos hc_9])) J29
    · refine x_iload_n dX1_has_12 rfl ?_
      refine x_if_lt (tgt := 28) dX1_has_13 (by decide) (fun hc_13 => ?_) (fun hc_13 => ?_)
      · refine x_iconst (v := 0) dX1_has_28 (by decide) ?_
        exact x_ls rfl (by first | rfl | (rw [if_neg hc_1, if_neg hc_9, if_pos hc_13] <;> rfl) | (simp only [if_neg hc_1, if_neg hc_9, if_pos hc_13]; rfl) | (simp only [if_neg hc_1, if_neg hc_9, if_pos hc_13])) J29
      · refine x_iload_n dX1_has_16 rfl ?_
        refine x_aload_n dX1_has_17 rfl ?_
        refine x_get 1 dX1_has_18 hP.1 rfl (by decide) (by decide +kernel) rfl ?_
        refine x_icmp_ge (tgt := 28) dX1_has_21 (by decide) (fun hc_21 => ?_) (fun hc_21 => ?_)
        · refine x_iconst (v := 0) dX1_has_28 (by decide) ?_
          exact x_ls rfl (by first | rfl | (rw [if_neg hc_1, if_neg hc_9, if_neg hc_13, if_pos hc_21] <;> rfl) | (simp only [if_neg hc_1, if_neg hc_9, if_neg hc_13, if_pos hc_21]; rfl) | (simp only [if_neg hc_1, if_neg hc_9, if_neg hc_13, if_pos hc_21])) J29
        · refine x_iconst (v := 1) dX1_has_24 (by decide) ?_
          refine x_goto (tgt := 29) dX1_has_25 (by decide) ?_
          exact x_ls rfl (by first | rfl | (rw [if_neg hc_1, if_neg hc_9, if_neg hc_13, if_neg hc_21] <;> rfl) | (simp only [if_neg hc_1, if_neg hc_9, if_neg hc_13, if_neg hc_21]; rfl) | (simp only [if_neg hc_1, if_neg hc_9, if_neg hc_13, if_neg hc_21])) J29
def FX1_cellAt (p : xPv) (x y : Int32) : Int32 := ((y * p.1) + x)
set_option maxHeartbeats 4000000 in
set_option maxRecDepth 100000 in
theorem kX1_cellAt {G : xG} {l : Launch} {d : Nat} {h : xH} {Q : Option Value → xH → Prop} {pg sx sy : Nat} {p : xPv} {x y : Int32} (hP : xPg pg sx sy p h)  (hQ : Q (some (.int (FX1_cellAt p x y))) h) : xV G l mX1_cellAt d 0 0 0 0 0 [.ref pg, .int x, .int y] [] h Q := by
  refine x_iload_n dX1_cellAt_0 rfl ?_
  refine x_aload_n dX1_cellAt_1 rfl ?_
  refine x_get 0 dX1_cellAt_2 hP.1 rfl (by decide) (by decide +kernel) rfl ?_
  refine x_imul dX1_cellAt_5 ?_
  refine x_iload_n dX1_cellAt_6 rfl ?_
  refine x_iadd dX1_cellAt_7 ?_
  exact x_iret dX1_cellAt_8 rfl (xri (by unfold FX1_cellAt; rfl) hQ)
def FX1_columnOf (p : xPv) (x : Int32) : Int32 := (x / (2 : Int32))
set_option maxHeartbeats 4000000 in
set_option maxRecDepth 100000 in
theorem kX1_columnOf {G : xG} {l : Launch} {d : Nat} {h : xH} {Q : Option Value → xH → Prop} {pg sx sy : Nat} {p : xPv} {x : Int32} (hP : xPg pg sx sy p h)  (hQ : Q (some (.int (FX1_columnOf p x))) h) : xV G l mX1_columnOf d 0 0 0 0 0 [.ref pg, .int x] [] h Q := by
  refine x_iload_n dX1_columnOf_0 rfl ?_
  refine x_iconst (v := 2) dX1_columnOf_1 (by decide) ?_
  refine x_idiv dX1_columnOf_2 (by decide) ?_
  exact x_iret dX1_columnOf_3 rfl (xri (by unfold FX1_columnOf; rfl) hQ)
def FX1_rowOf (p : xPv) (y : Int32) : Int32 := ((p.2.1 - (1 : Int32)) - (y / (4 : Int32)))
set_option maxHeartbeats 4000000 in
set_option maxRecDepth 100000 in
theorem kX1_rowOf {G : xG} {l : Launch} {d : Nat} {h : xH} {Q : Option Value → xH → Prop} {pg sx sy : Nat} {p : xPv} {y : Int32} (hP : xPg pg sx sy p h)  (hQ : Q (some (.int (FX1_rowOf p y))) h) : xV G l mX1_rowOf d 0 0 0 0 0 [.ref pg, .int y] [] h Q := by
  refine x_aload_n dX1_rowOf_0 rfl ?_
  refine x_get 1 dX1_rowOf_1 hP.1 rfl (by decide) (by decide +kernel) rfl ?_
  refine x_iconst (v := 1) dX1_rowOf_4 (by decide) ?_
  refine x_isub dX1_rowOf_5 ?_
  refine x_iload_n dX1_rowOf_6 rfl ?_
  refine x_iconst (v := 4) dX1_rowOf_7 (by decide) ?_
  refine x_idiv dX1_rowOf_8 (by decide) ?_
  refine x_isub dX1_rowOf_9 ?_
  exact x_iret dX1_rowOf_10 rfl (xri (by unfold FX1_rowOf; rfl) hQ)
set_option maxHeartbeats 4000000 in
set_option maxRecDepth 100000 in
theorem kX1_scaleOf {G : xG} {l : Launch} {d : Nat} {h : xH} {Q : Option Value → xH → Prop} {pg sx sy : Nat} {p : xPv} {ax : Int32} (hP : xPg pg sx sy p h)  (hQ : (if ax = 0 then Q (some (.ref sx)) h else (if ax = 1 then Q (some (.ref sy)) h else Q (some .null) h))) : xV G l mX1_scaleOf d 0 0 0 0 0 [.ref pg, .int ax] [] h Q := by
  refine x_iload_n dX1_scaleOf_0 rfl ?_
  by_cases hs_1_0 : ax = 0
  · refine x_lcase hs_1_0 (tgt := 28) (off := 27) dX1_scaleOf_1 (by decide) (by decide) (by decide) ?_
    refine x_aload_n dX1_scaleOf_28 rfl ?_
    refine x_get 2 dX1_scaleOf_29 hP.1 rfl (by decide) (by decide +kernel) rfl ?_
    exact x_aret dX1_scaleOf_32 rfl (Or.inl ⟨_, rfl⟩) (Or.inr ⟨_, rfl⟩) (by rw [if_pos hs_1_0] at hQ; exact hQ)
  by_cases hs_1_1 : ax = 1
  · refine x_lcase hs_1_1 (tgt := 33) (off := 32) dX1_scaleOf_1 (by decide) (by decide) (by decide) ?_
    refine x_aload_n dX1_scaleOf_33 rfl ?_
    refine x_get 3 dX1_scaleOf_34 hP.1 rfl (by decide) (by decide +kernel) rfl ?_
    exact x_aret dX1_scaleOf_37 rfl (Or.inl ⟨_, rfl⟩) (Or.inr ⟨_, rfl⟩) (by rw [if_neg hs_1_0, if_pos hs_1_1] at hQ; exact hQ)
  refine x_look (tgt := 38) dX1_scaleOf_1 (by decide) (off := 37) (by show Op.lookupswitch.offset [(0, 27), (1, 32)] 37 _ = 37; rw [lv_osw (a := 0) hs_1_0 rfl, lv_osw (a := 1) hs_1_1 rfl]; rfl) (by decide) ?_
  refine x_aconst_null dX1_scaleOf_38 ?_
  exact x_aret dX1_scaleOf_39 rfl (Or.inl ⟨_, rfl⟩) (Or.inl rfl) (by rw [if_neg hs_1_0, if_neg hs_1_1] at hQ; exact hQ)
def FX3_has (I : xSi) (V : Nat → Nat → Int32) (i : Int32) : Int32 := (if i < 0 then (0 : Int32) else (if I.2.2.2.1 ≤ i then (0 : Int32) else (1 : Int32)))
theorem bFX3_has {I : xSi} {V : Nat → Nat → Int32} {i : Int32} : FX3_has I V i = 0 ∨ FX3_has I V i = 1 := by
  unfold FX3_has
  repeat' (first | with_reducible exact Or.inl rfl | with_reducible exact Or.inr rfl | with_reducible exact bFX5_within | with_reducible exact bFX2_holds | with_reducible exact bFX1_has | split)
set_option maxHeartbeats 4000000 in
set_option maxRecDepth 100000 in
theorem kX3_has {G : xG} {l : Launch} {d : Nat} {h : xH} {Q : Option Value → xH → Prop} {pg : Nat} {B : Nat → Nat} {I : xSi} {V : Nat → Nat → Int32} {i : Int32} (hS : xSer G B pg I V h)  (hQ : Q (some (.int (FX3_has I V i))) h) : xV G l mX3_has d 0 0 0 0 0 [.ref (B 0), .int i] [] h Q := by
  refine x_iload_n dX3_has_0 rfl ?_
  have J17 : xV G l mX3_has d 0 0 0 0 17 [.ref (B 0), .int i] [.int (if i < 0 then (0 : Int32) else (if I.2.2.2.1 ≤ i then (0 : Int32) else (1 : Int32)))] h Q := by
    exact x_zret dX3_has_17 rfl (nbz (by repeat' (first | with_reducible exact Or.inl rfl | with_reducible exact Or.inr rfl | with_reducible exact bFX5_within | with_reducible exact bFX2_holds | with_reducible exact bFX1_has | split))) (xri (by unfold FX3_has; rfl) hQ)
  refine x_if_lt (tgt := 16) dX3_has_1 (by decide) (fun hc_1 => ?_) (fun hc_1 => ?_)
  · refine x_iconst (v := 0) dX3_has_16 (by decide) ?_
    exact x_ls rfl (by first | rfl | (rw [if_pos hc_1] <;> rfl) | (simp only [if_pos hc_1]; rfl) | (simp only [if_pos hc_1])) J17
  · refine x_iload_n dX3_has_4 rfl ?_
    refine x_aload_n dX3_has_5 rfl ?_
    refine x_get 3 dX3_has_6 hS.1 rfl (by decide) (by decide +kernel) rfl ?_
    refine x_icmp_ge (tgt := 16) dX3_has_9 (by decide) (fun hc_9 => ?_) (fun hc_9 => ?_)
    · refine x_iconst (v := 0) dX3_has_16 (by decide) ?_
      exact x_ls rfl (by first | rfl | (rw [if_neg hc_1, if_pos hc_9] <;> rfl) | (simp only [if_neg hc_1, if_pos hc_9]; rfl) | (simp only [if_neg hc_1, if_pos hc_9])) J17
    · refine x_iconst (v := 1) dX3_has_12 (by decide) ?_
      refine x_goto (tgt := 17) dX3_has_13 (by decide) ?_
      exact x_ls rfl (by first | rfl | (rw [if_neg hc_1, if_neg hc_9] <;> rfl) | (simp only [if_neg hc_1, if_neg hc_9]; rfl) | (simp only [if_neg hc_1, if_neg hc_9])) J17
theorem xhas_in {I : xSi} {V : Nat → Nat → Int32} {i : Int32} (hz : I.2.2.2.1 ≤ 24) (hh : ¬ FX3_has I V i = 0) : vp_in i 24 := by
  unfold FX3_has at hh
  split at hh
  · exact absurd rfl hh
  · split at hh
    · exact absurd rfl hh
    · rename_i h1 h2
      rw [vp_in_iff]
      rw [Int32.lt_iff_toInt_lt] at h1
      rw [Int32.le_iff_toInt_le] at h2 hz
      have e0 : (0 : Int32).toInt = 0 := rfl
      have e24 : (24 : Int32).toInt = 24 := rfl
      omega
def FX3_isPoint (I : xSi) (V : Nat → Nat → Int32) (i : Int32) : Int32 := (if (FX3_has I V i) = 0 then (0 : Int32) else (if ((V 4) (Int32.toNatClampNeg i)) = 0 then (1 : Int32) else (0 : Int32)))
theorem bFX3_isPoint {I : xSi} {V : Nat → Nat → Int32} {i : Int32} : FX3_isPoint I V i = 0 ∨ FX3_isPoint I V i = 1 := by
  unfold FX3_isPoint
  repeat' (first | with_reducible exact Or.inl rfl | with_reducible exact Or.inr rfl | with_reducible exact bFX5_within | with_reducible exact bFX2_holds | with_reducible exact bFX1_has | with_reducible exact bFX3_has | split)
set_option maxHeartbeats 4000000 in
set_option maxRecDepth 100000 in
theorem kX3_isPoint {G : xG} {l : Launch} {d : Nat} {h : xH} {Q : Option Value → xH → Prop} {pg : Nat} {B : Nat → Nat} {I : xSi} {V : Nat → Nat → Int32} {i : Int32} (hS : xSer G B pg I V h) (hz : I.2.2.2.1 ≤ 24)  (hQ : Q (some (.int (FX3_isPoint I V i))) h) : xV G l mX3_isPoint (d + 1) 0 0 0 0 0 [.ref (B 0), .int i] [] h Q := by
  refine x_aload_n dX3_isPoint_0 rfl ?_
  refine x_iload_n dX3_isPoint_1 rfl ?_
  refine x_callV (M' := mX3_has) (mc' := 0) (ms' := 0) (As := [.int i]) dX3_isPoint_2 gX3_isPoint_X3_has okX3_has rfl rfl hS.1 rfl (Nat.le_of_ble_eq_true rfl) (Nat.le_of_ble_eq_true rfl) (Nat.le_refl _) (Nat.le_refl _) (Nat.le_refl _) ?_
  refine kX3_has hS ?_
  show xV _ _ _ _ _ _ _ _ _ _ _ _ _
  have J22 : xV G l mX3_isPoint (d + 1) 0 0 0 0 22 [.ref (B 0), .int i] [.int (if (FX3_has I V i) = 0 then (0 : Int32) else (if ((V 4) (Int32.toNatClampNeg i)) = 0 then (1 : Int32) else (0 : Int32)))] h Q := by
    exact x_zret dX3_isPoint_22 rfl (nbz (by repeat' (first | with_reducible exact Or.inl rfl | with_reducible exact Or.inr rfl | with_reducible exact bFX5_within | with_reducible exact bFX2_holds | with_reducible exact bFX1_has | with_reducible exact bFX3_has | split))) (xri (by unfold FX3_isPoint; rfl) hQ)
  refine x_if_eq (tgt := 21) dX3_isPoint_5 (by decide) (fun hc_5 => ?_) (fun hc_5 => ?_)
  · refine x_iconst (v := 0) dX3_isPoint_21 (by decide) ?_
    exact x_ls rfl (by first | rfl | (rw [if_pos hc_5] <;> rfl) | (simp only [if_pos hc_5]; rfl) | (simp only [if_pos hc_5])) J22
  · refine x_aload_n dX3_isPoint_8 rfl ?_
    refine x_get 8 dX3_isPoint_9 hS.1 rfl (by decide) (by decide +kernel) rfl ?_
    refine x_iload_n dX3_isPoint_12 rfl ?_
    refine x_zald dX3_isPoint_13 hS.2.2.2.2.1 (xhas_in hz hc_5) ?_
    refine x_if_ne (tgt := 21) dX3_isPoint_14 (by decide) (fun hc_14 => ?_) (fun hc_14 => ?_)
    · refine x_iconst (v := 0) dX3_isPoint_21 (by decide) ?_
      exact x_ls rfl (by first | rfl | (rw [if_neg hc_5, if_neg hc_14] <;> rfl) | (simp only [if_neg hc_5, if_neg hc_14]; rfl) | (simp only [if_neg hc_5, if_neg hc_14])) J22
    · refine x_iconst (v := 1) dX3_isPoint_17 (by decide) ?_
      refine x_goto (tgt := 22) dX3_isPoint_18 (by decide) ?_
      exact x_ls rfl (by first | rfl | (rw [if_neg hc_5, if_pos hc_14] <;> rfl) | (simp only [if_neg hc_5, if_pos hc_14]; rfl) | (simp only [if_neg hc_5, if_pos hc_14])) J22
theorem xpt_in {I : xSi} {V : Nat → Nat → Int32} {i : Int32} (hz : I.2.2.2.1 ≤ 24) (hh : ¬ FX3_isPoint I V i = 0) : vp_in i 24 := by
  unfold FX3_isPoint at hh
  split at hh
  · exact absurd rfl hh
  · rename_i h1
    exact xhas_in hz h1
def FX3_isSeen (p : xPv) (I : xSi) (V : Nat → Nat → Int32) (i : Int32) : Int32 := (if (FX3_isPoint I V i) = 0 then (0 : Int32) else (if (FX2_placeOf p.2.2.1 ((V 1) (Int32.toNatClampNeg i))) = (-9 : Int32) then (0 : Int32) else (if (FX2_placeOf p.2.2.2 ((V 2) (Int32.toNatClampNeg i))) = (-9 : Int32) then (0 : Int32) else (1 : Int32))))
theorem bFX3_isSeen {p : xPv} {I : xSi} {V : Nat → Nat → Int32} {i : Int32} : FX3_isSeen p I V i = 0 ∨ FX3_isSeen p I V i = 1 := by
  unfold FX3_isSeen
  repeat' (first | with_reducible exact Or.inl rfl | with_reducible exact Or.inr rfl | with_reducible exact bFX5_within | with_reducible exact bFX2_holds | with_reducible exact bFX1_has | with_reducible exact bFX3_has | with_reducible exact bFX3_isPoint | split)
set_option maxHeartbeats 4000000 in
set_option maxRecDepth 100000 in
theorem kX3_isSeen {G : xG} {l : Launch} {d : Nat} {h : xH} {Q : Option Value → xH → Prop} {pg sx sy : Nat} {p : xPv} {B : Nat → Nat} {I : xSi} {V : Nat → Nat → Int32} {i : Int32} (hP : xPg pg sx sy p h) (hS : xSer G B pg I V h) (hz : I.2.2.2.1 ≤ 24)  (hQ : Q (some (.int (FX3_isSeen p I V i))) h) : xV G l mX3_isSeen (d + 2) 0 0 0 0 0 [.ref (B 0), .int i] [] h Q := by
  refine x_aload_n dX3_isSeen_0 rfl ?_
  refine x_iload_n dX3_isSeen_1 rfl ?_
  refine x_callV (M' := mX3_isPoint) (mc' := 0) (ms' := 0) (As := [.int i]) dX3_isSeen_2 gX3_isSeen_X3_isPoint okX3_isPoint rfl rfl hS.1 rfl (Nat.le_of_ble_eq_true rfl) (Nat.le_of_ble_eq_true rfl) (Nat.le_refl _) (Nat.le_refl _) (Nat.le_refl _) ?_
  refine kX3_isPoint hS hz ?_
  show xV _ _ _ _ _ _ _ _ _ _ _ _ _
  have J55 : xV G l mX3_isSeen (d + 2) 0 0 0 0 55 [.ref (B 0), .int i] [.int (if (FX3_isPoint I V i) = 0 then (0 : Int32) else (if (FX2_placeOf p.2.2.1 ((V 1) (Int32.toNatClampNeg i))) = (-9 : Int32) then (0 : Int32) else (if (FX2_placeOf p.2.2.2 ((V 2) (Int32.toNatClampNeg i))) = (-9 : Int32) then (0 : Int32) else (1 : Int32))))] h Q := by
    exact x_zret dX3_isSeen_55 rfl (nbz (by repeat' (first | with_reducible exact Or.inl rfl | with_reducible exact Or.inr rfl | with_reducible exact bFX5_within | with_reducible exact bFX2_holds | with_reducible exact bFX1_has | with_reducible exact bFX3_has | with_reducible exact bFX3_isPoint | split))) (xri (by unfold FX3_isSeen; rfl) hQ)
  refine x_if_eq (tgt := 54) dX3_isSeen_5 (by decide) (fun hc_5 => ?_) (fun hc_5 => ?_)
  · refine x_iconst (v := 0) dX3_isSeen_54 (by decide) ?_
    exact x_ls rfl (by first | rfl | (rw [if_pos hc_5] <;> rfl) | (simp only [if_pos hc_5]; rfl) | (simp only [if_pos hc_5])) J55
  · refine x_aload_n dX3_isSeen_8 rfl ?_
    refine x_get 9 dX3_isSeen_9 hS.1 rfl (by decide) (by decide +kernel) rfl ?_
    refine x_get 2 dX3_isSeen_12 hP.1 rfl (by decide) (by decide +kernel) rfl ?_
    refine x_aload_n dX3_isSeen_15 rfl ?_
    refine x_get 5 dX3_isSeen_16 hS.1 rfl (by decide) (by decide +kernel) rfl ?_
    refine x_iload_n dX3_isSeen_19 rfl ?_
    refine x_iald dX3_isSeen_20 hS.2.1 (xpt_in hz hc_5) ?_
    refine x_callV (M' := mX2_placeOf) (mc' := 0) (ms' := 0) (As := [.int ((V 1) (Int32.toNatClampNeg i))]) dX3_isSeen_21 gX3_isSeen_X2_placeOf okX2_placeOf rfl rfl hP.2.1 rfl (Nat.le_of_ble_eq_true rfl) (Nat.le_of_ble_eq_true rfl) (Nat.le_refl _) (Nat.le_refl _) (Nat.le_refl _) ?_
    refine kX2_placeOf hP.2.1 ?_
    show xV _ _ _ _ _ _ _ _ _ _ _ _ _
    refine x_bipush (v := (-9)) dX3_isSeen_24 (by decide) ?_
    refine x_icmp_eq (tgt := 54) dX3_isSeen_26 (by decide) (fun hc_26 => ?_) (fun hc_26 => ?_)
    · refine x_iconst (v := 0) dX3_isSeen_54 (by decide) ?_
      exact x_ls rfl (by first | rfl | (rw [if_neg hc_5, if_pos hc_26] <;> rfl) | (simp only [if_neg hc_5, if_pos hc_26]; rfl) | (simp only [if_neg hc_5, if_pos hc_26])) J55
    · refine x_aload_n dX3_isSeen_29 rfl ?_
      refine x_get 9 dX3_isSeen_30 hS.1 rfl (by decide) (by decide +kernel) rfl ?_
      refine x_get 3 dX3_isSeen_33 hP.1 rfl (by decide) (by decide +kernel) rfl ?_
      refine x_aload_n dX3_isSeen_36 rfl ?_
      refine x_get 6 dX3_isSeen_37 hS.1 rfl (by decide) (by decide +kernel) rfl ?_
      refine x_iload_n dX3_isSeen_40 rfl ?_
      refine x_iald dX3_isSeen_41 hS.2.2.1 (xpt_in hz hc_5) ?_
      refine x_callV (M' := mX2_placeOf) (mc' := 0) (ms' := 0) (As := [.int ((V 2) (Int32.toNatClampNeg i))]) dX3_isSeen_42 gX3_isSeen_X2_placeOf okX2_placeOf rfl rfl hP.2.2 rfl (Nat.le_of_ble_eq_true rfl) (Nat.le_of_ble_eq_true rfl) (Nat.le_refl _) (Nat.le_refl _) (Nat.le_refl _) ?_
      refine kX2_placeOf hP.2.2 ?_
      show xV _ _ _ _ _ _ _ _ _ _ _ _ _
      refine x_bipush (v := (-9)) dX3_isSeen_45 (by decide) ?_
      refine x_icmp_eq (tgt := 54) dX3_isSeen_47 (by decide) (fun hc_47 => ?_) (fun hc_47 => ?_)
      · refine x_iconst (v := 0) dX3_isSeen_54 (by decide) ?_
        exact x_ls rfl (by first | rfl | (rw [if_neg hc_5, if_neg hc_26, if_pos hc_47] <;> rfl) | (simp only [if_neg hc_5, if_neg hc_26, if_pos hc_47]; rfl) | (simp only [if_neg hc_5, if_neg hc_26, if_pos hc_47])) J55
      · refine x_iconst (v := 1) dX3_isSeen_50 (by decide) ?_
        refine x_goto (tgt := 55) dX3_isSeen_51 (by decide) ?_
        exact x_ls rfl (by first | rfl | (rw [if_neg hc_5, if_neg hc_26, if_neg hc_47] <;> rfl) | (simp only [if_neg hc_5, if_neg hc_26, if_neg hc_47]; rfl) | (simp only [if_neg hc_5, if_neg hc_26, if_neg hc_47])) J55
def FX3_dotAcross (p : xPv) (I : xSi) (V : Nat → Nat → Int32) (i : Int32) : Int32 := (if (FX3_has I V i) = 0 then (-9 : Int32) else (FX2_placeOf p.2.2.1 ((V 1) (Int32.toNatClampNeg i))))
set_option maxHeartbeats 4000000 in
set_option maxRecDepth 100000 in
theorem kX3_dotAcross {G : xG} {l : Launch} {d : Nat} {h : xH} {Q : Option Value → xH → Prop} {pg sx sy : Nat} {p : xPv} {B : Nat → Nat} {I : xSi} {V : Nat → Nat → Int32} {i : Int32} (hP : xPg pg sx sy p h) (hS : xSer G B pg I V h) (hz : I.2.2.2.1 ≤ 24)  (hQ : Q (some (.int (FX3_dotAcross p I V i))) h) : xV G l mX3_dotAcross (d + 2) 0 0 0 0 0 [.ref (B 0), .int i] [] h Q := by
  refine x_aload_n dX3_dotAcross_0 rfl ?_
  refine x_iload_n dX3_dotAcross_1 rfl ?_
  refine x_callV (M' := mX3_has) (mc' := 0) (ms' := 0) (As := [.int i]) dX3_dotAcross_2 gX3_dotAcross_X3_has okX3_has rfl rfl hS.1 rfl (Nat.le_of_ble_eq_true rfl) (Nat.le_of_ble_eq_true rfl) (Nat.le_refl _) (Nat.le_refl _) (Nat.le_refl _) ?_
  refine kX3_has hS ?_
  show xV _ _ _ _ _ _ _ _ _ _ _ _ _
  have J29 : xV G l mX3_dotAcross (d + 2) 0 0 0 0 29 [.ref (B 0), .int i] [.int (if (FX3_has I V i) = 0 then (-9 : Int32) else (FX2_placeOf p.2.2.1 ((V 1) (Int32.toNatClampNeg i))))] h Q := by
    exact x_iret dX3_dotAcross_29 rfl (xri (by unfold FX3_dotAcross; rfl) hQ)
  refine x_if_eq (tgt := 27) dX3_dotAcross_5 (by decide) (fun hc_5 => ?_) (fun hc_5 => ?_)
  · refine x_bipush (v := (-9)) dX3_dotAcross_27 (by decide) ?_
    exact x_ls rfl (by first | rfl | (rw [if_pos hc_5] <;> rfl) | (simp only [if_pos hc_5]; rfl) | (simp only [if_pos hc_5])) J29
  · refine x_aload_n dX3_dotAcross_8 rfl ?_
    refine x_get 9 dX3_dotAcross_9 hS.1 rfl (by decide) (by decide +kernel) rfl ?_
    refine x_get 2 dX3_dotAcross_12 hP.1 rfl (by decide) (by decide +kernel) rfl ?_
    refine x_aload_n dX3_dotAcross_15 rfl ?_
    refine x_get 5 dX3_dotAcross_16 hS.1 rfl (by decide) (by decide +kernel) rfl ?_
    refine x_iload_n dX3_dotAcross_19 rfl ?_
    refine x_iald dX3_dotAcross_20 hS.2.1 (xhas_in hz hc_5) ?_
    refine x_callV (M' := mX2_placeOf) (mc' := 0) (ms' := 0) (As := [.int ((V 1) (Int32.toNatClampNeg i))]) dX3_dotAcross_21 gX3_dotAcross_X2_placeOf okX2_placeOf rfl rfl hP.2.1 rfl (Nat.le_of_ble_eq_true rfl) (Nat.le_of_ble_eq_true rfl) (Nat.le_refl _) (Nat.le_refl _) (Nat.le_refl _) ?_
    refine kX2_placeOf hP.2.1 ?_
    show xV _ _ _ _ _ _ _ _ _ _ _ _ _
    refine x_goto (tgt := 29) dX3_dotAcross_24 (by decide) ?_
    exact x_ls rfl (by first | rfl | (rw [if_neg hc_5] <;> rfl) | (simp only [if_neg hc_5]; rfl) | (simp only [if_neg hc_5])) J29
def FX3_dotUpwards (p : xPv) (I : xSi) (V : Nat → Nat → Int32) (i : Int32) : Int32 := (if (FX3_has I V i) = 0 then (-9 : Int32) else (FX2_placeOf p.2.2.2 ((V 2) (Int32.toNatClampNeg i))))
set_option maxHeartbeats 4000000 in
set_option maxRecDepth 100000 in
theorem kX3_dotUpwards {G : xG} {l : Launch} {d : Nat} {h : xH} {Q : Option Value → xH → Prop} {pg sx sy : Nat} {p : xPv} {B : Nat → Nat} {I : xSi} {V : Nat → Nat → Int32} {i : Int32} (hP : xPg pg sx sy p h) (hS : xSer G B pg I V h) (hz : I.2.2.2.1 ≤ 24)  (hQ : Q (some (.int (FX3_dotUpwards p I V i))) h) : xV G l mX3_dotUpwards (d + 2) 0 0 0 0 0 [.ref (B 0), .int i] [] h Q := by
  refine x_aload_n dX3_dotUpwards_0 rfl ?_
  refine x_iload_n dX3_dotUpwards_1 rfl ?_
  refine x_callV (M' := mX3_has) (mc' := 0) (ms' := 0) (As := [.int i]) dX3_dotUpwards_2 gX3_dotUpwards_X3_has okX3_has rfl rfl hS.1 rfl (Nat.le_of_ble_eq_true rfl) (Nat.le_of_ble_eq_true rfl) (Nat.le_refl _) (Nat.le_refl _) (Nat.le_refl _) ?_
  refine kX3_has hS ?_
  show xV _ _ _ _ _ _ _ _ _ _ _ _ _
  have J29 : xV G l mX3_dotUpwards (d + 2) 0 0 0 0 29 [.ref (B 0), .int i] [.int (if (FX3_has I V i) = 0 then (-9 : Int32) else (FX2_placeOf p.2.2.2 ((V 2) (Int32.toNatClampNeg i))))] h Q := by
    exact x_iret dX3_dotUpwards_29 rfl (xri (by unfold FX3_dotUpwards; rfl) hQ)
  refine x_if_eq (tgt := 27) dX3_dotUpwards_5 (by decide) (fun hc_5 => ?_) (fun hc_5 => ?_)
  · refine x_bipush (v := (-9)) dX3_dotUpwards_27 (by decide) ?_
    exact x_ls rfl (by first | rfl | (rw [if_pos hc_5] <;> rfl) | (simp only [if_pos hc_5]; rfl) | (simp only [if_pos hc_5])) J29
  · refine x_aload_n dX3_dotUpwards_8 rfl ?_
    refine x_get 9 dX3_dotUpwards_9 hS.1 rfl (by decide) (by decide +kernel) rfl ?_
    refine x_get 3 dX3_dotUpwards_12 hP.1 rfl (by decide) (by decide +kernel) rfl ?_
    refine x_aload_n dX3_dotUpwards_15 rfl ?_
    refine x_get 6 dX3_dotUpwards_16 hS.1 rfl (by decide) (by decide +kernel) rfl ?_
    refine x_iload_n dX3_dotUpwards_19 rfl ?_
    refine x_iald dX3_dotUpwards_20 hS.2.2.1 (xhas_in hz hc_5) ?_
    refine x_callV (M' := mX2_placeOf) (mc' := 0) (ms' := 0) (As := [.int ((V 2) (Int32.toNatClampNeg i))]) dX3_dotUpwards_21 gX3_dotUpwards_X2_placeOf okX2_placeOf rfl rfl hP.2.2 rfl (Nat.le_of_ble_eq_true rfl) (Nat.le_of_ble_eq_true rfl) (Nat.le_refl _) (Nat.le_refl _) (Nat.le_refl _) ?_
    refine kX2_placeOf hP.2.2 ?_
    show xV _ _ _ _ _ _ _ _ _ _ _ _ _
    refine x_goto (tgt := 29) dX3_dotUpwards_24 (by decide) ?_
    exact x_ls rfl (by first | rfl | (rw [if_neg hc_5] <;> rfl) | (simp only [if_neg hc_5]; rfl) | (simp only [if_neg hc_5])) J29
def FX3_endOf (p : xPv) (I : xSi) (V : Nat → Nat → Int32) (v w : Int32) : Int32 := (if (FX2_placeOf p.2.2.2 v) = (-9 : Int32) then w else (FX2_placeOf p.2.2.2 v))
set_option maxHeartbeats 4000000 in
set_option maxRecDepth 100000 in
theorem kX3_endOf {G : xG} {l : Launch} {d : Nat} {h : xH} {Q : Option Value → xH → Prop} {pg sx sy : Nat} {p : xPv} {B : Nat → Nat} {I : xSi} {V : Nat → Nat → Int32} {v w : Int32} (hP : xPg pg sx sy p h) (hS : xSer G B pg I V h)  (hQ : Q (some (.int (FX3_endOf p I V v w))) h) : xV G l mX3_endOf (d + 2) 0 0 0 0 0 [.ref (B 0), .int v, .int w, xU] [] h Q := by
  refine x_aload_n dX3_endOf_0 rfl ?_
  refine x_get 9 dX3_endOf_1 hS.1 rfl (by decide) (by decide +kernel) rfl ?_
  refine x_get 3 dX3_endOf_4 hP.1 rfl (by decide) (by decide +kernel) rfl ?_
  refine x_iload_n dX3_endOf_7 rfl ?_
  refine x_callV (M' := mX2_placeOf) (mc' := 0) (ms' := 0) (As := [.int v]) dX3_endOf_8 gX3_endOf_X2_placeOf okX2_placeOf rfl rfl hP.2.2 rfl (Nat.le_of_ble_eq_true rfl) (Nat.le_of_ble_eq_true rfl) (Nat.le_refl _) (Nat.le_refl _) (Nat.le_refl _) ?_
  refine kX2_placeOf hP.2.2 ?_
  show xV _ _ _ _ _ _ _ _ _ _ _ _ _
  refine x_istore_n dX3_endOf_11 (by decide) rfl ?_
  refine x_iload_n dX3_endOf_12 rfl ?_
  refine x_bipush (v := (-9)) dX3_endOf_13 (by decide) ?_
  have J23 : xV G l mX3_endOf (d + 2) 0 0 0 0 23 [.ref (B 0), .int v, .int w, .int (FX2_placeOf p.2.2.2 v)] [.int (if (FX2_placeOf p.2.2.2 v) = (-9 : Int32) then w else (FX2_placeOf p.2.2.2 v))] h Q := by
    exact x_iret dX3_endOf_23 rfl (xri (by unfold FX3_endOf; rfl) hQ)
  refine x_icmp_ne (tgt := 22) dX3_endOf_15 (by decide) (fun hc_15 => ?_) (fun hc_15 => ?_)
  · refine x_iload_n dX3_endOf_22 rfl ?_
    exact x_ls rfl (by first | rfl | (rw [if_neg hc_15] <;> rfl) | (simp only [if_neg hc_15]; rfl) | (simp only [if_neg hc_15])) J23
  · refine x_iload_n dX3_endOf_18 rfl ?_
    refine x_goto (tgt := 23) dX3_endOf_19 (by decide) ?_
    exact x_ls rfl (by first | rfl | (rw [if_pos hc_15] <;> rfl) | (simp only [if_pos hc_15]; rfl) | (simp only [if_pos hc_15])) J23
theorem xcell_in {c : Int32} (h1 : ¬ c < 0) (h2 : ¬ 640 ≤ c) : vp_in c 640 := by
  rw [vp_in_iff]
  rw [Int32.lt_iff_toInt_lt] at h1
  rw [Int32.le_iff_toInt_le] at h2
  have e0 : (0 : Int32).toInt = 0 := rfl
  have e24 : (640 : Int32).toInt = 640 := rfl
  omega
def FX4_inkIn (V : Nat → Nat → Int32) (q : Int32) : Int32 := (if q < 0 then (0 : Int32) else (if (640 : Int32) ≤ q then (0 : Int32) else ((V 6) (Int32.toNatClampNeg q))))
set_option maxHeartbeats 4000000 in
set_option maxRecDepth 100000 in
theorem kX4_inkIn {G : xG} {l : Launch} {d : Nat} {h : xH} {Q : Option Value → xH → Prop} {pg : Nat} {B : Nat → Nat} {I : xSi} {V : Nat → Nat → Int32} {q : Int32} (hS : xSer G B pg I V h)  (hQ : Q (some (.int (FX4_inkIn V q))) h) : xV G l mX4_inkIn d 0 0 0 0 0 [.ref (B 5), .int q] [] h Q := by
  refine x_iload_n dX4_inkIn_0 rfl ?_
  have J23 : xV G l mX4_inkIn d 0 0 0 0 23 [.ref (B 5), .int q] [.int (if q < 0 then (0 : Int32) else (if (640 : Int32) ≤ q then (0 : Int32) else ((V 6) (Int32.toNatClampNeg q))))] h Q := by
    exact x_iret dX4_inkIn_23 rfl (xri (by unfold FX4_inkIn; rfl) hQ)
  refine x_if_lt (tgt := 22) dX4_inkIn_1 (by decide) (fun hc_1 => ?_) (fun hc_1 => ?_)
  · refine x_iconst (v := 0) dX4_inkIn_22 (by decide) ?_
    exact x_ls rfl (by first | rfl | (rw [if_pos hc_1] <;> rfl) | (simp only [if_pos hc_1]; rfl) | (simp only [if_pos hc_1])) J23
  · refine x_iload_n dX4_inkIn_4 rfl ?_
    refine x_aload_n dX4_inkIn_5 rfl ?_
    refine x_get 1 dX4_inkIn_6 hS.2.2.2.2.2.1 rfl (by decide) (by decide +kernel) rfl ?_
    refine x_alenI (v := 640) dX4_inkIn_9 hS.2.2.2.2.2.2.1 (by decide) ?_
    refine x_icmp_ge (tgt := 22) dX4_inkIn_10 (by decide) (fun hc_10 => ?_) (fun hc_10 => ?_)
    · refine x_iconst (v := 0) dX4_inkIn_22 (by decide) ?_
      exact x_ls rfl (by first | rfl | (rw [if_neg hc_1, if_pos hc_10] <;> rfl) | (simp only [if_neg hc_1, if_pos hc_10]; rfl) | (simp only [if_neg hc_1, if_pos hc_10])) J23
    · refine x_aload_n dX4_inkIn_13 rfl ?_
      refine x_get 1 dX4_inkIn_14 hS.2.2.2.2.2.1 rfl (by decide) (by decide +kernel) rfl ?_
      refine x_iload_n dX4_inkIn_17 rfl ?_
      refine x_iald dX4_inkIn_18 hS.2.2.2.2.2.2.1 (xcell_in hc_1 hc_10) ?_
      refine x_goto (tgt := 23) dX4_inkIn_19 (by decide) ?_
      exact x_ls rfl (by first | rfl | (rw [if_neg hc_1, if_neg hc_10] <;> rfl) | (simp only [if_neg hc_1, if_neg hc_10]; rfl) | (simp only [if_neg hc_1, if_neg hc_10])) J23
def FX4_hitsIn (V : Nat → Nat → Int32) (q : Int32) : Int32 := (if q < 0 then (0 : Int32) else (if (640 : Int32) ≤ q then (0 : Int32) else ((V 7) (Int32.toNatClampNeg q))))
set_option maxHeartbeats 4000000 in
set_option maxRecDepth 100000 in
theorem kX4_hitsIn {G : xG} {l : Launch} {d : Nat} {h : xH} {Q : Option Value → xH → Prop} {pg : Nat} {B : Nat → Nat} {I : xSi} {V : Nat → Nat → Int32} {q : Int32} (hS : xSer G B pg I V h)  (hQ : Q (some (.int (FX4_hitsIn V q))) h) : xV G l mX4_hitsIn d 0 0 0 0 0 [.ref (B 5), .int q] [] h Q := by
  refine x_iload_n dX4_hitsIn_0 rfl ?_
  have J23 : xV G l mX4_hitsIn d 0 0 0 0 23 [.ref (B 5), .int q] [.int (if q < 0 then (0 : Int32) else (if (640 : Int32) ≤ q then (0 : Int32) else ((V 7) (Int32.toNatClampNeg q))))] h Q := by
    exact x_iret dX4_hitsIn_23 rfl (xri (by unfold FX4_hitsIn; rfl) hQ)
  refine x_if_lt (tgt := 22) dX4_hitsIn_1 (by decide) (fun hc_1 => ?_) (fun hc_1 => ?_)
  · refine x_iconst (v := 0) dX4_hitsIn_22 (by decide) ?_
    exact x_ls rfl (by first | rfl | (rw [if_pos hc_1] <;> rfl) | (simp only [if_pos hc_1]; rfl) | (simp only [if_pos hc_1])) J23
  · refine x_iload_n dX4_hitsIn_4 rfl ?_
    refine x_aload_n dX4_hitsIn_5 rfl ?_
    refine x_get 2 dX4_hitsIn_6 hS.2.2.2.2.2.1 rfl (by decide) (by decide +kernel) rfl ?_
    refine x_alenI (v := 640) dX4_hitsIn_9 hS.2.2.2.2.2.2.2 (by decide) ?_
    refine x_icmp_ge (tgt := 22) dX4_hitsIn_10 (by decide) (fun hc_10 => ?_) (fun hc_10 => ?_)
    · refine x_iconst (v := 0) dX4_hitsIn_22 (by decide) ?_
      exact x_ls rfl (by first | rfl | (rw [if_neg hc_1, if_pos hc_10] <;> rfl) | (simp only [if_neg hc_1, if_pos hc_10]; rfl) | (simp only [if_neg hc_1, if_pos hc_10])) J23
    · refine x_aload_n dX4_hitsIn_13 rfl ?_
      refine x_get 2 dX4_hitsIn_14 hS.2.2.2.2.2.1 rfl (by decide) (by decide +kernel) rfl ?_
      refine x_iload_n dX4_hitsIn_17 rfl ?_
      refine x_iald dX4_hitsIn_18 hS.2.2.2.2.2.2.2 (xcell_in hc_1 hc_10) ?_
      refine x_goto (tgt := 23) dX4_hitsIn_19 (by decide) ?_
      exact x_ls rfl (by first | rfl | (rw [if_neg hc_1, if_neg hc_10] <;> rfl) | (simp only [if_neg hc_1, if_neg hc_10]; rfl) | (simp only [if_neg hc_1, if_neg hc_10])) J23
def FX3_signIn (I : xSi) (V : Nat → Nat → Int32) (q : Int32) : Int32 := (if I.1 = 0 then I.2.2.1 else (if I.1 = 3 then ((9600 : Int32) + (FX4_inkIn V q)) else ((10240 : Int32) + (FX4_inkIn V q))))
set_option maxHeartbeats 4000000 in
set_option maxRecDepth 100000 in
theorem kX3_signIn {G : xG} {l : Launch} {d : Nat} {h : xH} {Q : Option Value → xH → Prop} {pg : Nat} {B : Nat → Nat} {I : xSi} {V : Nat → Nat → Int32} {q : Int32} (hS : xSer G B pg I V h)  (hQ : Q (some (.int (FX3_signIn I V q))) h) : xV G l mX3_signIn (d + 1) 0 0 0 0 0 [.ref (B 0), .int q] [] h Q := by
  refine x_aload_n dX3_signIn_0 rfl ?_
  refine x_get 0 dX3_signIn_1 hS.1 rfl (by decide) (by decide +kernel) rfl ?_
  by_cases hs_4_0 : I.1 = 0
  · refine x_lcase hs_4_0 (tgt := 32) (off := 28) dX3_signIn_4 (by decide) (by decide) (by decide) ?_
    refine x_aload_n dX3_signIn_32 rfl ?_
    refine x_get 2 dX3_signIn_33 hS.1 rfl (by decide) (by decide +kernel) rfl ?_
    exact x_iret dX3_signIn_36 rfl (xri (by unfold FX3_signIn; rw [if_pos hs_4_0]) hQ)
  by_cases hs_4_3 : I.1 = 3
  · refine x_lcase hs_4_3 (tgt := 37) (off := 33) dX3_signIn_4 (by decide) (by decide) (by decide) ?_
    refine x_sipush (v := 9600) dX3_signIn_37 (by decide) ?_
    refine x_aload_n dX3_signIn_40 rfl ?_
    refine x_get 10 dX3_signIn_41 hS.1 rfl (by decide) (by decide +kernel) rfl ?_
    refine x_iload_n dX3_signIn_44 rfl ?_
    refine x_callV (M' := mX4_inkIn) (mc' := 0) (ms' := 0) (As := [.int q]) dX3_signIn_45 gX3_signIn_X4_inkIn okX4_inkIn rfl rfl hS.2.2.2.2.2.1 rfl (Nat.le_of_ble_eq_true rfl) (Nat.le_of_ble_eq_true rfl) (Nat.le_refl _) (Nat.le_refl _) (Nat.le_refl _) ?_
    refine kX4_inkIn hS ?_
    show xV _ _ _ _ _ _ _ _ _ _ _ _ _
    refine x_iadd dX3_signIn_48 ?_
    exact x_iret dX3_signIn_49 rfl (xri (by unfold FX3_signIn; rw [if_neg hs_4_0, if_pos hs_4_3]) hQ)
  refine x_look (tgt := 50) dX3_signIn_4 (by decide) (off := 46) (by show Op.lookupswitch.offset [(0, 28), (3, 33)] 46 _ = 46; rw [lv_osw (a := 0) hs_4_0 rfl, lv_osw (a := 3) hs_4_3 rfl]; rfl) (by decide) ?_
  refine x_sipush (v := 10240) dX3_signIn_50 (by decide) ?_
  refine x_aload_n dX3_signIn_53 rfl ?_
  refine x_get 10 dX3_signIn_54 hS.1 rfl (by decide) (by decide +kernel) rfl ?_
  refine x_iload_n dX3_signIn_57 rfl ?_
  refine x_callV (M' := mX4_inkIn) (mc' := 0) (ms' := 0) (As := [.int q]) dX3_signIn_58 gX3_signIn_X4_inkIn okX4_inkIn rfl rfl hS.2.2.2.2.2.1 rfl (Nat.le_of_ble_eq_true rfl) (Nat.le_of_ble_eq_true rfl) (Nat.le_refl _) (Nat.le_refl _) (Nat.le_refl _) ?_
  refine kX4_inkIn hS ?_
  show xV _ _ _ _ _ _ _ _ _ _ _ _ _
  refine x_iadd dX3_signIn_61 ?_
  exact x_iret dX3_signIn_62 rfl (xri (by unfold FX3_signIn; rw [if_neg hs_4_0, if_neg hs_4_3]) hQ)
