/-- the reference's object: COLUMNS, ROWS, many, labels, isDrawn; A tells where each of its rows lies -/
abbrev xMi : Type := Int32 × Int32 × Int32 × Int32 × Int32
abbrev xMo (A : Nat → Nat) (I : xMi) : va_E := xOb 7 [.int I.1, .int I.2.1, .ref (A 2), .ref (A 3), .ref (A 4), .ref (A 5), .ref (A 6), .int I.2.2.1, .ref (A 8), .ref (A 9), .ref (A 10), .ref (A 11), .ref (A 12), .ref (A 13), .ref (A 14), .ref (A 15), .int I.2.2.2.1, .ref (A 17), .ref (A 18), .ref (A 19), .ref (A 20), .ref (A 21), .int I.2.2.2.2, .ref (A 23), .ref (A 24), .ref (A 25)]
/-- how long each of its rows is; 0: none -/
def xMn : Nat → Nat
  | 2 => 2 | 3 => 2 | 4 => 2 | 5 => 2 | 6 => 2 | 8 => 6 | 9 => 6 | 10 => 6 | 11 => 6 | 12 => 144 | 13 => 144 | 14 => 144 | 15 => 144
  | 17 => 20 | 18 => 20 | 19 => 20 | 20 => 20 | 21 => 20 | 23 => 3840 | 24 => 3840 | 25 => 24 | _ => 0
def xMr (G : xG) (k : Nat) (f : Nat → Int32) : va_E := if k = 15 then xRz G (xMn k) f else xRi G (xMn k) f
def xMod (G : xG) (A : Nat → Nat) (I : xMi) (V : Nat → Nat → Int32) (h : xH) : Prop := h (A 0) = some (xMo A I) ∧ ∀ k : Nat, xMn k ≠ 0 → h (A k) = some (xMr G k (V k))
theorem xMod.r {G : xG} {A : Nat → Nat} {I : xMi} {V : Nat → Nat → Int32} {h : xH} (hM : xMod G A I V h) (k : Nat) (hk : xMn k ≠ 0) (h15 : k ≠ 15) : h (A k) = some (xRi G (xMn k) (V k)) := by
  have := hM.2 k hk
  rw [xMr, if_neg h15] at this
  exact this
theorem xMod.z {G : xG} {A : Nat → Nat} {I : xMi} {V : Nat → Nat → Int32} {h : xH} (hM : xMod G A I V h) : h (A 15) = some (xRz G 144 (V 15)) := hM.2 15 (by decide)
def FX6_in (v a b : Int32) : Int32 := (if v < a then (0 : Int32) else (if b < v then (0 : Int32) else (1 : Int32)))
theorem bFX6_in {v a b : Int32} : FX6_in v a b = 0 ∨ FX6_in v a b = 1 := by
  unfold FX6_in
  repeat' (first | with_reducible exact Or.inl rfl | with_reducible exact Or.inr rfl | with_reducible exact bFX5_within | with_reducible exact bFX2_holds | split)
set_option maxHeartbeats 4000000 in
set_option maxRecDepth 100000 in
theorem kX6_in {G : xG} {l : Launch} {d : Nat} {h : xH} {Q : Option Value → xH → Prop} {v a b : Int32}   (hQ : Q (some (.int (FX6_in v a b))) h) : xV G l mX6_in d 0 0 0 0 0 [.int v, .int a, .int b] [] h Q := by
  refine x_iload_n dX6_in_0 rfl ?_
  refine x_iload_n dX6_in_1 rfl ?_
  have J15 : xV G l mX6_in d 0 0 0 0 15 [.int v, .int a, .int b] [.int (if v < a then (0 : Int32) else (if b < v then (0 : Int32) else (1 : Int32)))] h Q := by
    exact x_zret dX6_in_15 rfl (nbz (by repeat' (first | with_reducible exact Or.inl rfl | with_reducible exact Or.inr rfl | with_reducible exact bFX5_within | with_reducible exact bFX2_holds | split))) (xri (by unfold FX6_in; rfl) hQ)
  refine x_icmp_lt (tgt := 14) dX6_in_2 (by decide) (fun hc_2 => ?_) (fun hc_2 => ?_)
  · refine x_iconst (v := 0) dX6_in_14 (by decide) ?_
    exact x_ls rfl (by first | rfl | (rw [if_pos hc_2] <;> rfl)) J15
  · refine x_iload_n dX6_in_5 rfl ?_
    refine x_iload_n dX6_in_6 rfl ?_
    refine x_icmp_gt (tgt := 14) dX6_in_7 (by decide) (fun hc_7 => ?_) (fun hc_7 => ?_)
    · refine x_iconst (v := 0) dX6_in_14 (by decide) ?_
      exact x_ls rfl (by first | rfl | (rw [if_neg hc_2, if_pos hc_7] <;> rfl)) J15
    · refine x_iconst (v := 1) dX6_in_10 (by decide) ?_
      refine x_goto (tgt := 15) dX6_in_11 (by decide) ?_
      exact x_ls rfl (by first | rfl | (rw [if_neg hc_2, if_neg hc_7] <;> rfl)) J15
def FX6_isValue (v : Int32) : Int32 := (FX6_in v (-1000000 : Int32) (1000000 : Int32))
theorem bFX6_isValue {v : Int32} : FX6_isValue v = 0 ∨ FX6_isValue v = 1 := by
  unfold FX6_isValue
  repeat' (first | with_reducible exact Or.inl rfl | with_reducible exact Or.inr rfl | with_reducible exact bFX5_within | with_reducible exact bFX2_holds | with_reducible exact bFX6_in | split)
set_option maxHeartbeats 4000000 in
set_option maxRecDepth 100000 in
theorem kX6_isValue {G : xG} {l : Launch} {d : Nat} {h : xH} {Q : Option Value → xH → Prop} {v : Int32}   (hQ : Q (some (.int (FX6_isValue v))) h) : xV G l mX6_isValue (d + 1) 0 0 0 0 0 [.int v] [] h Q := by
  refine x_iload_n dX6_isValue_0 rfl ?_
  refine x_ldc (v := (-1000000)) dX6_isValue_1 (by decide +kernel) ?_
  refine x_ldc (v := 1000000) dX6_isValue_3 (by decide +kernel) ?_
  refine x_callS (M' := mX6_in) (mc' := 0) (ms' := 0) (As := [.int v, .int (-1000000 : Int32), .int (1000000 : Int32)]) dX6_isValue_5 gX6_isValue_X6_in okX6_in rfl rfl (Nat.le_of_ble_eq_true rfl) (Nat.le_of_ble_eq_true rfl) (Nat.le_refl _) (Nat.le_refl _) (Nat.le_refl _) ?_
  refine kX6_in  ?_
  show xV _ _ _ _ _ _ _ _ _ _ _ _ _
  exact x_zret dX6_isValue_8 rfl (nbz (by repeat' (first | with_reducible exact Or.inl rfl | with_reducible exact Or.inr rfl | with_reducible exact bFX5_within | with_reducible exact bFX2_holds | with_reducible exact bFX6_in | split))) (xri (by unfold FX6_isValue; rfl) hQ)
def FX6_isAxis (v : Int32) : Int32 := (FX6_in v (0 : Int32) (1 : Int32))
theorem bFX6_isAxis {v : Int32} : FX6_isAxis v = 0 ∨ FX6_isAxis v = 1 := by
  unfold FX6_isAxis
  repeat' (first | with_reducible exact Or.inl rfl | with_reducible exact Or.inr rfl | with_reducible exact bFX5_within | with_reducible exact bFX2_holds | with_reducible exact bFX6_in | with_reducible exact bFX6_isValue | split)
set_option maxHeartbeats 4000000 in
set_option maxRecDepth 100000 in
theorem kX6_isAxis {G : xG} {l : Launch} {d : Nat} {h : xH} {Q : Option Value → xH → Prop} {v : Int32}   (hQ : Q (some (.int (FX6_isAxis v))) h) : xV G l mX6_isAxis (d + 1) 0 0 0 0 0 [.int v] [] h Q := by
  refine x_iload_n dX6_isAxis_0 rfl ?_
  refine x_iconst (v := 0) dX6_isAxis_1 (by decide) ?_
  refine x_iconst (v := 1) dX6_isAxis_2 (by decide) ?_
  refine x_callS (M' := mX6_in) (mc' := 0) (ms' := 0) (As := [.int v, .int (0 : Int32), .int (1 : Int32)]) dX6_isAxis_3 gX6_isAxis_X6_in okX6_in rfl rfl (Nat.le_of_ble_eq_true rfl) (Nat.le_of_ble_eq_true rfl) (Nat.le_refl _) (Nat.le_refl _) (Nat.le_refl _) ?_
  refine kX6_in  ?_
  show xV _ _ _ _ _ _ _ _ _ _ _ _ _
  exact x_zret dX6_isAxis_6 rfl (nbz (by repeat' (first | with_reducible exact Or.inl rfl | with_reducible exact Or.inr rfl | with_reducible exact bFX5_within | with_reducible exact bFX2_holds | with_reducible exact bFX6_in | with_reducible exact bFX6_isValue | split))) (xri (by unfold FX6_isAxis; rfl) hQ)
def FX6_floor (v t : Int32) : Int32 := (if v < 0 then (-(((t - (1 : Int32)) - v) / t)) else (v / t))
set_option maxHeartbeats 4000000 in
set_option maxRecDepth 100000 in
theorem kX6_floor {G : xG} {l : Launch} {d : Nat} {h : xH} {Q : Option Value → xH → Prop} {v t : Int32}  (ht : ¬ t = 0) (hQ : Q (some (.int (FX6_floor v t))) h) : xV G l mX6_floor d 0 0 0 0 0 [.int v, .int t] [] h Q := by
  refine x_iload_n dX6_floor_0 rfl ?_
  have J18 : xV G l mX6_floor d 0 0 0 0 18 [.int v, .int t] [.int (if v < 0 then (-(((t - (1 : Int32)) - v) / t)) else (v / t))] h Q := by
    exact x_iret dX6_floor_18 rfl (xri (by unfold FX6_floor; rfl) hQ)
  refine x_if_lt (tgt := 10) dX6_floor_1 (by decide) (fun hc_1 => ?_) (fun hc_1 => ?_)
  · refine x_iload_n dX6_floor_10 rfl ?_
    refine x_iconst (v := 1) dX6_floor_11 (by decide) ?_
    refine x_isub dX6_floor_12 ?_
    refine x_iload_n dX6_floor_13 rfl ?_
    refine x_isub dX6_floor_14 ?_
    refine x_iload_n dX6_floor_15 rfl ?_
    refine x_idiv dX6_floor_16 ht ?_
    refine x_ineg dX6_floor_17 ?_
    exact x_ls rfl (by first | rfl | (rw [if_pos hc_1] <;> rfl)) J18
  · refine x_iload_n dX6_floor_4 rfl ?_
    refine x_iload_n dX6_floor_5 rfl ?_
    refine x_idiv dX6_floor_6 ht ?_
    refine x_goto (tgt := 18) dX6_floor_7 (by decide) ?_
    exact x_ls rfl (by first | rfl | (rw [if_neg hc_1] <;> rfl)) J18
def FX6_multiples (a b t : Int32) : Int32 := (if a ≤ b then ((FX6_floor b t) - (FX6_floor (a - (1 : Int32)) t)) else (0 : Int32))
set_option maxHeartbeats 4000000 in
set_option maxRecDepth 100000 in
theorem kX6_multiples {G : xG} {l : Launch} {d : Nat} {h : xH} {Q : Option Value → xH → Prop} {a b t : Int32}  (ht : ¬ t = 0) (hQ : Q (some (.int (FX6_multiples a b t))) h) : xV G l mX6_multiples (d + 1) 0 0 0 0 0 [.int a, .int b, .int t] [] h Q := by
  refine x_iload_n dX6_multiples_0 rfl ?_
  refine x_iload_n dX6_multiples_1 rfl ?_
  have J22 : xV G l mX6_multiples (d + 1) 0 0 0 0 22 [.int a, .int b, .int t] [.int (if a ≤ b then ((FX6_floor b t) - (FX6_floor (a - (1 : Int32)) t)) else (0 : Int32))] h Q := by
    exact x_iret dX6_multiples_22 rfl (xri (by unfold FX6_multiples; rfl) hQ)
  refine x_icmp_le (tgt := 9) dX6_multiples_2 (by decide) (fun hc_2 => ?_) (fun hc_2 => ?_)
  · refine x_iload_n dX6_multiples_9 rfl ?_
    refine x_iload_n dX6_multiples_10 rfl ?_
    refine x_callS (M' := mX6_floor) (mc' := 0) (ms' := 0) (As := [.int b, .int t]) dX6_multiples_11 gX6_multiples_X6_floor okX6_floor rfl rfl (Nat.le_of_ble_eq_true rfl) (Nat.le_of_ble_eq_true rfl) (Nat.le_refl _) (Nat.le_refl _) (Nat.le_refl _) ?_
    refine kX6_floor ht ?_
    show xV _ _ _ _ _ _ _ _ _ _ _ _ _
    refine x_iload_n dX6_multiples_14 rfl ?_
    refine x_iconst (v := 1) dX6_multiples_15 (by decide) ?_
    refine x_isub dX6_multiples_16 ?_
    refine x_iload_n dX6_multiples_17 rfl ?_
    refine x_callS (M' := mX6_floor) (mc' := 0) (ms' := 0) (As := [.int (a - (1 : Int32)), .int t]) dX6_multiples_18 gX6_multiples_X6_floor okX6_floor rfl rfl (Nat.le_of_ble_eq_true rfl) (Nat.le_of_ble_eq_true rfl) (Nat.le_refl _) (Nat.le_refl _) (Nat.le_refl _) ?_
    refine kX6_floor ht ?_
    show xV _ _ _ _ _ _ _ _ _ _ _ _ _
    refine x_isub dX6_multiples_21 ?_
    exact x_ls rfl (by first | rfl | (rw [if_pos hc_2] <;> rfl)) J22
  · refine x_iconst (v := 0) dX6_multiples_5 (by decide) ?_
    refine x_goto (tgt := 22) dX6_multiples_6 (by decide) ?_
    exact x_ls rfl (by first | rfl | (rw [if_neg hc_2] <;> rfl)) J22
def FX6_isStyle (w v : Int32) : Int32 := (if w = 0 then (FX6_in v (0 : Int32) (4 : Int32)) else (if w = (1 : Int32) then (FX6_in v (0 : Int32) (9 : Int32)) else (if w = (2 : Int32) then (if (FX6_in v (33 : Int32) (126 : Int32)) = 0 then (0 : Int32) else (1 : Int32)) else (0 : Int32))))
theorem bFX6_isStyle {w v : Int32} : FX6_isStyle w v = 0 ∨ FX6_isStyle w v = 1 := by
  unfold FX6_isStyle
  repeat' (first | with_reducible exact Or.inl rfl | with_reducible exact Or.inr rfl | with_reducible exact bFX5_within | with_reducible exact bFX2_holds | with_reducible exact bFX6_in | with_reducible exact bFX6_isValue | with_reducible exact bFX6_isAxis | split)
set_option maxHeartbeats 4000000 in
set_option maxRecDepth 100000 in
theorem kX6_isStyle {G : xG} {l : Launch} {d : Nat} {h : xH} {Q : Option Value → xH → Prop} {w v : Int32}   (hQ : Q (some (.int (FX6_isStyle w v))) h) : xV G l mX6_isStyle (d + 1) 0 0 0 0 0 [.int w, .int v] [] h Q := by
  refine x_iload_n dX6_isStyle_0 rfl ?_
  have J49 : xV G l mX6_isStyle (d + 1) 0 0 0 0 49 [.int w, .int v] [.int (if w = 0 then (FX6_in v (0 : Int32) (4 : Int32)) else (if w = (1 : Int32) then (FX6_in v (0 : Int32) (9 : Int32)) else (if w = (2 : Int32) then (if (FX6_in v (33 : Int32) (126 : Int32)) = 0 then (0 : Int32) else (1 : Int32)) else (0 : Int32))))] h Q := by
    exact x_zret dX6_isStyle_49 rfl (nbz (by repeat' (first | with_reducible exact Or.inl rfl | with_reducible exact Or.inr rfl | with_reducible exact bFX5_within | with_reducible exact bFX2_holds | with_reducible exact bFX6_in | with_reducible exact bFX6_isValue | with_reducible exact bFX6_isAxis | split))) (xri (by unfold FX6_isStyle; rfl) hQ)
  refine x_if_ne (tgt := 13) dX6_isStyle_1 (by decide) (fun hc_1 => ?_) (fun hc_1 => ?_)
  · refine x_iload_n dX6_isStyle_13 rfl ?_
    refine x_iconst (v := 1) dX6_isStyle_14 (by decide) ?_
    refine x_icmp_ne (tgt := 28) dX6_isStyle_15 (by decide) (fun hc_15 => ?_) (fun hc_15 => ?_)
    · refine x_iload_n dX6_isStyle_28 rfl ?_
      refine x_iconst (v := 2) dX6_isStyle_29 (by decide) ?_
      refine x_icmp_ne (tgt := 48) dX6_isStyle_30 (by decide) (fun hc_30 => ?_) (fun hc_30 => ?_)
      · refine x_iconst (v := 0) dX6_isStyle_48 (by decide) ?_
        exact x_ls rfl (by first | rfl | (rw [if_neg hc_1, if_neg hc_15, if_neg hc_30] <;> rfl)) J49
      · refine x_iload_n dX6_isStyle_33 rfl ?_
        refine x_bipush (v := 33) dX6_isStyle_34 (by decide) ?_
        refine x_bipush (v := 126) dX6_isStyle_36 (by decide) ?_
        refine x_callS (M' := mX6_in) (mc' := 0) (ms' := 0) (As := [.int v, .int (33 : Int32), .int (126 : Int32)]) dX6_isStyle_38 gX6_isStyle_X6_in okX6_in rfl rfl (Nat.le_of_ble_eq_true rfl) (Nat.le_of_ble_eq_true rfl) (Nat.le_refl _) (Nat.le_refl _) (Nat.le_refl _) ?_
        refine kX6_in  ?_
        show xV _ _ _ _ _ _ _ _ _ _ _ _ _
        refine x_if_eq (tgt := 48) dX6_isStyle_41 (by decide) (fun hc_41 => ?_) (fun hc_41 => ?_)
        · refine x_iconst (v := 0) dX6_isStyle_48 (by decide) ?_
          exact x_ls rfl (by first | rfl | (rw [if_neg hc_1, if_neg hc_15, if_pos hc_30, if_pos hc_41] <;> rfl)) J49
        · refine x_iconst (v := 1) dX6_isStyle_44 (by decide) ?_
          refine x_goto (tgt := 49) dX6_isStyle_45 (by decide) ?_
          exact x_ls rfl (by first | rfl | (rw [if_neg hc_1, if_neg hc_15, if_pos hc_30, if_neg hc_41] <;> rfl)) J49
    · refine x_iload_n dX6_isStyle_18 rfl ?_
      refine x_iconst (v := 0) dX6_isStyle_19 (by decide) ?_
      refine x_bipush (v := 9) dX6_isStyle_20 (by decide) ?_
      refine x_callS (M' := mX6_in) (mc' := 0) (ms' := 0) (As := [.int v, .int (0 : Int32), .int (9 : Int32)]) dX6_isStyle_22 gX6_isStyle_X6_in okX6_in rfl rfl (Nat.le_of_ble_eq_true rfl) (Nat.le_of_ble_eq_true rfl) (Nat.le_refl _) (Nat.le_refl _) (Nat.le_refl _) ?_
      refine kX6_in  ?_
      show xV _ _ _ _ _ _ _ _ _ _ _ _ _
      refine x_goto (tgt := 49) dX6_isStyle_25 (by decide) ?_
      exact x_ls rfl (by first | rfl | (rw [if_neg hc_1, if_pos hc_15] <;> rfl)) J49
  · refine x_iload_n dX6_isStyle_4 rfl ?_
    refine x_iconst (v := 0) dX6_isStyle_5 (by decide) ?_
    refine x_iconst (v := 4) dX6_isStyle_6 (by decide) ?_
    refine x_callS (M' := mX6_in) (mc' := 0) (ms' := 0) (As := [.int v, .int (0 : Int32), .int (4 : Int32)]) dX6_isStyle_7 gX6_isStyle_X6_in okX6_in rfl rfl (Nat.le_of_ble_eq_true rfl) (Nat.le_of_ble_eq_true rfl) (Nat.le_refl _) (Nat.le_refl _) (Nat.le_refl _) ?_
    refine kX6_in  ?_
    show xV _ _ _ _ _ _ _ _ _ _ _ _ _
    refine x_goto (tgt := 49) dX6_isStyle_10 (by decide) ?_
    exact x_ls rfl (by first | rfl | (rw [if_pos hc_1] <;> rfl)) J49
def FX6_dots (I : xMi) (V : Nat → Nat → Int32) (ax : Int32) : Int32 := (if ax = 0 then ((2 : Int32) * I.1) else ((4 : Int32) * I.2.1))
set_option maxHeartbeats 4000000 in
set_option maxRecDepth 100000 in
theorem kX6_dots {G : xG} {l : Launch} {d : Nat} {h : xH} {Q : Option Value → xH → Prop} {A : Nat → Nat} {I : xMi} {V : Nat → Nat → Int32} {ax : Int32} (hM : xMod G A I V h)   (hQ : Q (some (.int (FX6_dots I V ax))) h) : xV G l mX6_dots d 0 0 0 0 0 [.ref (A 0), .int ax] [] h Q := by
  refine x_iload_n dX6_dots_0 rfl ?_
  have J19 : xV G l mX6_dots d 0 0 0 0 19 [.ref (A 0), .int ax] [.int (if ax = 0 then ((2 : Int32) * I.1) else ((4 : Int32) * I.2.1))] h Q := by
    exact x_iret dX6_dots_19 rfl (xri (by unfold FX6_dots; rfl) hQ)
  refine x_if_ne (tgt := 13) dX6_dots_1 (by decide) (fun hc_1 => ?_) (fun hc_1 => ?_)
  · refine x_iconst (v := 4) dX6_dots_13 (by decide) ?_
    refine x_aload_n dX6_dots_14 rfl ?_
    refine x_get 1 dX6_dots_15 hM.1 rfl (by decide) (by decide +kernel) rfl ?_
    refine x_imul dX6_dots_18 ?_
    exact x_ls rfl (by first | rfl | (rw [if_neg hc_1] <;> rfl)) J19
  · refine x_iconst (v := 2) dX6_dots_4 (by decide) ?_
    refine x_aload_n dX6_dots_5 rfl ?_
    refine x_get 0 dX6_dots_6 hM.1 rfl (by decide) (by decide +kernel) rfl ?_
    refine x_imul dX6_dots_9 ?_
    refine x_goto (tgt := 19) dX6_dots_10 (by decide) ?_
    exact x_ls rfl (by first | rfl | (rw [if_pos hc_1] <;> rfl)) J19
def FX6_left (I : xMi) (V : Nat → Nat → Int32) (ax : Int32) : Int32 := (if ((V 2) (Int32.toNatClampNeg ax)) = (2 : Int32) then (((V 6) (Int32.toNatClampNeg ax)) - ((V 5) (Int32.toNatClampNeg ax))) else (0 : Int32))
set_option maxHeartbeats 4000000 in
set_option maxRecDepth 100000 in
theorem kX6_left {G : xG} {l : Launch} {d : Nat} {h : xH} {Q : Option Value → xH → Prop} {A : Nat → Nat} {I : xMi} {V : Nat → Nat → Int32} {ax : Int32} (hM : xMod G A I V h) (hax : vp_in ax 2)  (hQ : Q (some (.int (FX6_left I V ax))) h) : xV G l mX6_left d 0 0 0 0 0 [.ref (A 0), .int ax] [] h Q := by
  refine x_aload_n dX6_left_0 rfl ?_
  refine x_get 2 dX6_left_1 hM.1 rfl (by decide) (by decide +kernel) rfl ?_
  refine x_iload_n dX6_left_4 rfl ?_
  refine x_iald dX6_left_5 (hM.r 2 (by decide) (by decide)) (by assumption) ?_
  refine x_iconst (v := 2) dX6_left_6 (by decide) ?_
  have J27 : xV G l mX6_left d 0 0 0 0 27 [.ref (A 0), .int ax] [.int (if ((V 2) (Int32.toNatClampNeg ax)) = (2 : Int32) then (((V 6) (Int32.toNatClampNeg ax)) - ((V 5) (Int32.toNatClampNeg ax))) else (0 : Int32))] h Q := by
    exact x_iret dX6_left_27 rfl (xri (by unfold FX6_left; rfl) hQ)
  refine x_icmp_ne (tgt := 26) dX6_left_7 (by decide) (fun hc_7 => ?_) (fun hc_7 => ?_)
  · refine x_iconst (v := 0) dX6_left_26 (by decide) ?_
    exact x_ls rfl (by first | rfl | (rw [if_neg hc_7] <;> rfl)) J27
  · refine x_aload_n dX6_left_10 rfl ?_
    refine x_get 6 dX6_left_11 hM.1 rfl (by decide) (by decide +kernel) rfl ?_
    refine x_iload_n dX6_left_14 rfl ?_
    refine x_iald dX6_left_15 (hM.r 6 (by decide) (by decide)) (by assumption) ?_
    refine x_aload_n dX6_left_16 rfl ?_
    refine x_get 5 dX6_left_17 hM.1 rfl (by decide) (by decide +kernel) rfl ?_
    refine x_iload_n dX6_left_20 rfl ?_
    refine x_iald dX6_left_21 (hM.r 5 (by decide) (by decide)) (by assumption) ?_
    refine x_isub dX6_left_22 ?_
    refine x_goto (tgt := 27) dX6_left_23 (by decide) ?_
    exact x_ls rfl (by first | rfl | (rw [if_pos hc_7] <;> rfl)) J27
def FX6_span (I : xMi) (V : Nat → Nat → Int32) (ax : Int32) : Int64 := (((Int32.toInt64 ((V 4) (Int32.toNatClampNeg ax))) - (Int32.toInt64 ((V 3) (Int32.toNatClampNeg ax)))) - (Int32.toInt64 (FX6_left I V ax)))
set_option maxHeartbeats 4000000 in
set_option maxRecDepth 100000 in
theorem kX6_span {G : xG} {l : Launch} {d : Nat} {h : xH} {Q : Option Value → xH → Prop} {A : Nat → Nat} {I : xMi} {V : Nat → Nat → Int32} {ax : Int32} (hM : xMod G A I V h) (hax : vp_in ax 2)  (hQ : Q (some (.long (FX6_span I V ax))) h) : xV G l mX6_span (d + 1) 0 0 0 0 0 [.ref (A 0), .int ax] [] h Q := by
  refine x_aload_n dX6_span_0 rfl ?_
  refine x_get 4 dX6_span_1 hM.1 rfl (by decide) (by decide +kernel) rfl ?_
  refine x_iload_n dX6_span_4 rfl ?_
  refine x_iald dX6_span_5 (hM.r 4 (by decide) (by decide)) (by assumption) ?_
  refine x_i2l dX6_span_6 ?_
  refine x_aload_n dX6_span_7 rfl ?_
  refine x_get 3 dX6_span_8 hM.1 rfl (by decide) (by decide +kernel) rfl ?_
  refine x_iload_n dX6_span_11 rfl ?_
  refine x_iald dX6_span_12 (hM.r 3 (by decide) (by decide)) (by assumption) ?_
  refine x_i2l dX6_span_13 ?_
  refine x_lsub dX6_span_14 ?_
  refine x_aload_n dX6_span_15 rfl ?_
  refine x_iload_n dX6_span_16 rfl ?_
  refine x_callV (M' := mX6_left) (mc' := 0) (ms' := 0) (As := [.int ax]) dX6_span_17 gX6_span_X6_left okX6_left rfl rfl hM.1 rfl (Nat.le_of_ble_eq_true rfl) (Nat.le_of_ble_eq_true rfl) (Nat.le_refl _) (Nat.le_refl _) (Nat.le_refl _) ?_
  refine kX6_left hM hax ?_
  show xV _ _ _ _ _ _ _ _ _ _ _ _ _
  refine x_i2l dX6_span_20 ?_
  refine x_lsub dX6_span_21 ?_
  exact x_lret dX6_span_22 rfl (xrl (by unfold FX6_span; rfl) hQ)
def FX6_dotOf (I : xMi) (V : Nat → Nat → Int32) (ax : Int32) (a : Int64) : Int32 := (Int64.toInt32 (((((2 : Int64) * a) * (Int32.toInt64 ((FX6_dots I V ax) - (1 : Int32)))) + (FX6_span I V ax)) / ((2 : Int64) * (FX6_span I V ax))))
set_option maxHeartbeats 4000000 in
set_option maxRecDepth 100000 in
theorem kX6_dotOf {G : xG} {l : Launch} {d : Nat} {h : xH} {Q : Option Value → xH → Prop} {A : Nat → Nat} {I : xMi} {V : Nat → Nat → Int32} {ax : Int32} {a : Int64} (hM : xMod G A I V h) (hax : vp_in ax 2) (hdv : ¬ (2 : Int64) * FX6_span I V ax = 0)  (hQ : Q (some (.int (FX6_dotOf I V ax a))) h) : xV G l mX6_dotOf (d + 2) 0 0 0 0 0 [.ref (A 0), .int ax, .long a, xU, xU, xU] [] h Q := by
  refine x_aload_n dX6_dotOf_0 rfl ?_
  refine x_iload_n dX6_dotOf_1 rfl ?_
  refine x_callV (M' := mX6_span) (mc' := 0) (ms' := 0) (As := [.int ax]) dX6_dotOf_2 gX6_dotOf_X6_span okX6_span rfl rfl hM.1 rfl (Nat.le_of_ble_eq_true rfl) (Nat.le_of_ble_eq_true rfl) (Nat.le_refl _) (Nat.le_refl _) (Nat.le_refl _) ?_
  refine kX6_span hM hax ?_
  show xV _ _ _ _ _ _ _ _ _ _ _ _ _
  refine x_lstore dX6_dotOf_5 (by decide) rfl ?_
  refine x_ldc2 (v := 2) dX6_dotOf_7 (by decide +kernel) ?_
  refine x_lload_n dX6_dotOf_10 rfl ?_
  refine x_lmul dX6_dotOf_11 ?_
  refine x_aload_n dX6_dotOf_12 rfl ?_
  refine x_iload_n dX6_dotOf_13 rfl ?_
  refine x_callV (M' := mX6_dots) (mc' := 0) (ms' := 0) (As := [.int ax]) dX6_dotOf_14 gX6_dotOf_X6_dots okX6_dots rfl rfl hM.1 rfl (Nat.le_of_ble_eq_true rfl) (Nat.le_of_ble_eq_true rfl) (Nat.le_refl _) (Nat.le_refl _) (Nat.le_refl _) ?_
  refine kX6_dots hM  ?_
  show xV _ _ _ _ _ _ _ _ _ _ _ _ _
  refine x_iconst (v := 1) dX6_dotOf_17 (by decide) ?_
  refine x_isub dX6_dotOf_18 ?_
  refine x_i2l dX6_dotOf_19 ?_
  refine x_lmul dX6_dotOf_20 ?_
  refine x_lload dX6_dotOf_21 rfl ?_
  refine x_ladd dX6_dotOf_23 ?_
  refine x_ldc2 (v := 2) dX6_dotOf_24 (by decide +kernel) ?_
  refine x_lload dX6_dotOf_27 rfl ?_
  refine x_lmul dX6_dotOf_29 ?_
  refine x_ldiv dX6_dotOf_30 hdv ?_
  refine x_l2i dX6_dotOf_31 ?_
  exact x_iret dX6_dotOf_32 rfl (xri (by unfold FX6_dotOf; rfl) hQ)
def FX6_has (I : xMi) (V : Nat → Nat → Int32) (ax : Int32) (v : Int32) : Int32 := (if v < ((V 3) (Int32.toNatClampNeg ax)) then (0 : Int32) else (if ((V 4) (Int32.toNatClampNeg ax)) < v then (0 : Int32) else (if (if ((V 2) (Int32.toNatClampNeg ax)) = (2 : Int32) then (if v ≤ ((V 5) (Int32.toNatClampNeg ax)) then (0 : Int32) else (if ((V 6) (Int32.toNatClampNeg ax)) ≤ v then (0 : Int32) else (1 : Int32))) else (0 : Int32)) = 0 then (1 : Int32) else (0 : Int32))))
theorem bFX6_has {I : xMi} {V : Nat → Nat → Int32} {ax : Int32} {v : Int32} : FX6_has I V ax v = 0 ∨ FX6_has I V ax v = 1 := by
  unfold FX6_has
  repeat' (first | with_reducible exact Or.inl rfl | with_reducible exact Or.inr rfl | with_reducible exact bFX5_within | with_reducible exact bFX2_holds | with_reducible exact bFX6_in | with_reducible exact bFX6_isValue | with_reducible exact bFX6_isAxis | with_reducible exact bFX6_isStyle | split)
set_option maxHeartbeats 4000000 in
set_option maxRecDepth 100000 in
theorem kX6_has {G : xG} {l : Launch} {d : Nat} {h : xH} {Q : Option Value → xH → Prop} {A : Nat → Nat} {I : xMi} {V : Nat → Nat → Int32} {ax : Int32} {v : Int32} (hM : xMod G A I V h) (hax : vp_in ax 2)  (hQ : Q (some (.int (FX6_has I V ax v))) h) : xV G l mX6_has d 0 0 0 0 0 [.ref (A 0), .int ax, .int v, xU] [] h Q := by
  refine x_aload_n dX6_has_0 rfl ?_
  refine x_get 2 dX6_has_1 hM.1 rfl (by decide) (by decide +kernel) rfl ?_
  refine x_iload_n dX6_has_4 rfl ?_
  refine x_iald dX6_has_5 (hM.r 2 (by decide) (by decide)) (by assumption) ?_
  refine x_iconst (v := 2) dX6_has_6 (by decide) ?_
  have J35 : xV G l mX6_has d 0 0 0 0 35 [.ref (A 0), .int ax, .int v, xU] [.int (if ((V 2) (Int32.toNatClampNeg ax)) = (2 : Int32) then (if v ≤ ((V 5) (Int32.toNatClampNeg ax)) then (0 : Int32) else (if ((V 6) (Int32.toNatClampNeg ax)) ≤ v then (0 : Int32) else (1 : Int32))) else (0 : Int32))] h Q := by
    refine x_istore_n dX6_has_35 (by decide) rfl ?_
    refine x_iload_n dX6_has_36 rfl ?_
    refine x_aload_n dX6_has_37 rfl ?_
    refine x_get 3 dX6_has_38 hM.1 rfl (by decide) (by decide +kernel) rfl ?_
    refine x_iload_n dX6_has_41 rfl ?_
    refine x_iald dX6_has_42 (hM.r 3 (by decide) (by decide)) (by assumption) ?_
    have J65 : xV G l mX6_has d 0 0 0 0 65 [.ref (A 0), .int ax, .int v, .int (if ((V 2) (Int32.toNatClampNeg ax)) = (2 : Int32) then (if v ≤ ((V 5) (Int32.toNatClampNeg ax)) then (0 : Int32) else (if ((V 6) (Int32.toNatClampNeg ax)) ≤ v then (0 : Int32) else (1 : Int32))) else (0 : Int32))] [.int (if v < ((V 3) (Int32.toNatClampNeg ax)) then (0 : Int32) else (if ((V 4) (Int32.toNatClampNeg ax)) < v then (0 : Int32) else (if (if ((V 2) (Int32.toNatClampNeg ax)) = (2 : Int32) then (if v ≤ ((V 5) (Int32.toNatClampNeg ax)) then (0 : Int32) else (if ((V 6) (Int32.toNatClampNeg ax)) ≤ v then (0 : Int32) else (1 : Int32))) else (0 : Int32)) = 0 then (1 : Int32) else (0 : Int32))))] h Q := by
      exact x_zret dX6_has_65 rfl (nbz (by repeat' (first | with_reducible exact Or.inl rfl | with_reducible exact Or.inr rfl | with_reducible exact bFX5_within | with_reducible exact bFX2_holds | with_reducible exact bFX6_in | with_reducible exact bFX6_isValue | with_reducible exact bFX6_isAxis | with_reducible exact bFX6_isStyle | split))) (xri (by unfold FX6_has; rfl) hQ)
    refine x_icmp_lt (tgt := 64) dX6_has_43 (by decide) (fun hc_43 => ?_) (fun hc_43 => ?_)
    · refine x_iconst (v := 0) dX6_has_64 (by decide) ?_
      exact x_ls rfl (by first | rfl | (rw [if_pos hc_43] <;> rfl)) J65
    · refine x_iload_n dX6_has_46 rfl ?_
      refine x_aload_n dX6_has_47 rfl ?_
      refine x_get 4 dX6_has_48 hM.1 rfl (by decide) (by decide +kernel) rfl ?_
      refine x_iload_n dX6_has_51 rfl ?_
      refine x_iald dX6_has_52 (hM.r 4 (by decide) (by decide)) (by assumption) ?_
      refine x_icmp_gt (tgt := 64) dX6_has_53 (by decide) (fun hc_53 => ?_) (fun hc_53 => ?_)
      · refine x_iconst (v := 0) dX6_has_64 (by decide) ?_
        exact x_ls rfl (by first | rfl | (rw [if_neg hc_43, if_pos hc_53] <;> rfl)) J65
      · refine x_iload_n dX6_has_56 rfl ?_
        refine x_if_ne (tgt := 64) dX6_has_57 (by decide) (fun hc_57 => ?_) (fun hc_57 => ?_)
        · refine x_iconst (v := 0) dX6_has_64 (by decide) ?_
          exact x_ls rfl (by first | rfl | (rw [if_neg hc_43, if_neg hc_53, if_neg hc_57] <;> rfl)) J65
        · refine x_iconst (v := 1) dX6_has_60 (by decide) ?_
          refine x_goto (tgt := 65) dX6_has_61 (by decide) ?_
          exact x_ls rfl (by first | rfl | (rw [if_neg hc_43, if_neg hc_53, if_pos hc_57] <;> rfl)) J65
  refine x_icmp_ne (tgt := 34) dX6_has_7 (by decide) (fun hc_7 => ?_) (fun hc_7 => ?_)
  · refine x_iconst (v := 0) dX6_has_34 (by decide) ?_
    exact x_ls rfl (by first | rfl | (rw [if_neg hc_7] <;> rfl)) J35
  · refine x_iload_n dX6_has_10 rfl ?_
    refine x_aload_n dX6_has_11 rfl ?_
    refine x_get 5 dX6_has_12 hM.1 rfl (by decide) (by decide +kernel) rfl ?_
    refine x_iload_n dX6_has_15 rfl ?_
    refine x_iald dX6_has_16 (hM.r 5 (by decide) (by decide)) (by assumption) ?_
    refine x_icmp_le (tgt := 34) dX6_has_17 (by decide) (fun hc_17 => ?_) (fun hc_17 => ?_)
    · refine x_iconst (v := 0) dX6_has_34 (by decide) ?_
      exact x_ls rfl (by first | rfl | (rw [if_pos hc_7, if_pos hc_17] <;> rfl)) J35
    · refine x_iload_n dX6_has_20 rfl ?_
      refine x_aload_n dX6_has_21 rfl ?_
      refine x_get 6 dX6_has_22 hM.1 rfl (by decide) (by decide +kernel) rfl ?_
      refine x_iload_n dX6_has_25 rfl ?_
      refine x_iald dX6_has_26 (hM.r 6 (by decide) (by decide)) (by assumption) ?_
      refine x_icmp_ge (tgt := 34) dX6_has_27 (by decide) (fun hc_27 => ?_) (fun hc_27 => ?_)
      · refine x_iconst (v := 0) dX6_has_34 (by decide) ?_
        exact x_ls rfl (by first | rfl | (rw [if_pos hc_7, if_neg hc_17, if_pos hc_27] <;> rfl)) J35
      · refine x_iconst (v := 1) dX6_has_30 (by decide) ?_
        refine x_goto (tgt := 35) dX6_has_31 (by decide) ?_
        exact x_ls rfl (by first | rfl | (rw [if_pos hc_7, if_neg hc_17, if_neg hc_27] <;> rfl)) J35
def FX6_placeOf (I : xMi) (V : Nat → Nat → Int32) (ax : Int32) (v : Int32) : Int32 := (if (FX6_has I V ax v) = 0 then (-9 : Int32) else (if ((V 2) (Int32.toNatClampNeg ax)) = (1 : Int32) then (((FX6_dots I V ax) - (1 : Int32)) - (FX6_dotOf I V ax (((Int32.toInt64 v) - (Int32.toInt64 ((V 3) (Int32.toNatClampNeg ax)))) - (Int32.toInt64 (if ((V 2) (Int32.toNatClampNeg ax)) = (2 : Int32) then (if v < ((V 6) (Int32.toNatClampNeg ax)) then (0 : Int32) else (FX6_left I V ax)) else (0 : Int32)))))) else (FX6_dotOf I V ax (((Int32.toInt64 v) - (Int32.toInt64 ((V 3) (Int32.toNatClampNeg ax)))) - (Int32.toInt64 (if ((V 2) (Int32.toNatClampNeg ax)) = (2 : Int32) then (if v < ((V 6) (Int32.toNatClampNeg ax)) then (0 : Int32) else (FX6_left I V ax)) else (0 : Int32)))))))
set_option maxHeartbeats 4000000 in
set_option maxRecDepth 100000 in
theorem kX6_placeOf {G : xG} {l : Launch} {d : Nat} {h : xH} {Q : Option Value → xH → Prop} {A : Nat → Nat} {I : xMi} {V : Nat → Nat → Int32} {ax : Int32} {v : Int32} (hM : xMod G A I V h) (hax : vp_in ax 2) (hdv : ¬ (2 : Int64) * FX6_span I V ax = 0)  (hQ : Q (some (.int (FX6_placeOf I V ax v))) h) : xV G l mX6_placeOf (d + 3) 0 0 0 0 0 [.ref (A 0), .int ax, .int v, xU, xU, xU] [] h Q := by
  refine x_aload_n dX6_placeOf_0 rfl ?_
  refine x_iload_n dX6_placeOf_1 rfl ?_
  refine x_iload_n dX6_placeOf_2 rfl ?_
  refine x_callV (M' := mX6_has) (mc' := 0) (ms' := 0) (As := [.int ax, .int v]) dX6_placeOf_3 gX6_placeOf_X6_has okX6_has rfl rfl hM.1 rfl (Nat.le_of_ble_eq_true rfl) (Nat.le_of_ble_eq_true rfl) (Nat.le_refl _) (Nat.le_refl _) (Nat.le_refl _) ?_
  refine kX6_has hM hax ?_
  show xV _ _ _ _ _ _ _ _ _ _ _ _ _
  refine x_if_ne (tgt := 12) dX6_placeOf_6 (by decide) (fun hc_6 => ?_) (fun hc_6 => ?_)
  · refine x_iload_n dX6_placeOf_12 rfl ?_
    refine x_i2l dX6_placeOf_13 ?_
    refine x_aload_n dX6_placeOf_14 rfl ?_
    refine x_get 3 dX6_placeOf_15 hM.1 rfl (by decide) (by decide +kernel) rfl ?_
    refine x_iload_n dX6_placeOf_18 rfl ?_
    refine x_iald dX6_placeOf_19 (hM.r 3 (by decide) (by decide)) (by assumption) ?_
    refine x_i2l dX6_placeOf_20 ?_
    refine x_lsub dX6_placeOf_21 ?_
    refine x_aload_n dX6_placeOf_22 rfl ?_
    refine x_get 2 dX6_placeOf_23 hM.1 rfl (by decide) (by decide +kernel) rfl ?_
    refine x_iload_n dX6_placeOf_26 rfl ?_
    refine x_iald dX6_placeOf_27 (hM.r 2 (by decide) (by decide)) (by assumption) ?_
    refine x_iconst (v := 2) dX6_placeOf_28 (by decide) ?_
    have J51 : xV G l mX6_placeOf (d + 3) 0 0 0 0 51 [.ref (A 0), .int ax, .int v, xU, xU, xU] [.int (if ((V 2) (Int32.toNatClampNeg ax)) = (2 : Int32) then (if v < ((V 6) (Int32.toNatClampNeg ax)) then (0 : Int32) else (FX6_left I V ax)) else (0 : Int32)), .long ((Int32.toInt64 v) - (Int32.toInt64 ((V 3) (Int32.toNatClampNeg ax))))] h Q := by
      refine x_i2l dX6_placeOf_51 ?_
      refine x_lsub dX6_placeOf_52 ?_
      refine x_lstore_n dX6_placeOf_53 (by decide) rfl ?_
      refine x_aload_n dX6_placeOf_54 rfl ?_
      refine x_iload_n dX6_placeOf_55 rfl ?_
      refine x_lload_n dX6_placeOf_56 rfl ?_
      refine x_callV (M' := mX6_dotOf) (mc' := 0) (ms' := 0) (As := [.int ax, .long (((Int32.toInt64 v) - (Int32.toInt64 ((V 3) (Int32.toNatClampNeg ax)))) - (Int32.toInt64 (if ((V 2) (Int32.toNatClampNeg ax)) = (2 : Int32) then (if v < ((V 6) (Int32.toNatClampNeg ax)) then (0 : Int32) else (FX6_left I V ax)) else (0 : Int32))))]) dX6_placeOf_57 gX6_placeOf_X6_dotOf okX6_dotOf rfl rfl hM.1 rfl (Nat.le_of_ble_eq_true rfl) (Nat.le_of_ble_eq_true rfl) (Nat.le_refl _) (Nat.le_refl _) (Nat.le_refl _) ?_
      refine kX6_dotOf hM hax hdv ?_
      show xV _ _ _ _ _ _ _ _ _ _ _ _ _
      refine x_istore dX6_placeOf_60 (by decide) rfl ?_
      refine x_aload_n dX6_placeOf_62 rfl ?_
      refine x_get 2 dX6_placeOf_63 hM.1 rfl (by decide) (by decide +kernel) rfl ?_
      refine x_iload_n dX6_placeOf_66 rfl ?_
      refine x_iald dX6_placeOf_67 (hM.r 2 (by decide) (by decide)) (by assumption) ?_
      refine x_iconst (v := 1) dX6_placeOf_68 (by decide) ?_
      have J87 : xV G l mX6_placeOf (d + 3) 0 0 0 0 87 [.ref (A 0), .int ax, .int v, .long (((Int32.toInt64 v) - (Int32.toInt64 ((V 3) (Int32.toNatClampNeg ax)))) - (Int32.toInt64 (if ((V 2) (Int32.toNatClampNeg ax)) = (2 : Int32) then (if v < ((V 6) (Int32.toNatClampNeg ax)) then (0 : Int32) else (FX6_left I V ax)) else (0 : Int32)))), xU, .int (FX6_dotOf I V ax (((Int32.toInt64 v) - (Int32.toInt64 ((V 3) (Int32.toNatClampNeg ax)))) - (Int32.toInt64 (if ((V 2) (Int32.toNatClampNeg ax)) = (2 : Int32) then (if v < ((V 6) (Int32.toNatClampNeg ax)) then (0 : Int32) else (FX6_left I V ax)) else (0 : Int32)))))] [.int (if ((V 2) (Int32.toNatClampNeg ax)) = (1 : Int32) then (((FX6_dots I V ax) - (1 : Int32)) - (FX6_dotOf I V ax (((Int32.toInt64 v) - (Int32.toInt64 ((V 3) (Int32.toNatClampNeg ax)))) - (Int32.toInt64 (if ((V 2) (Int32.toNatClampNeg ax)) = (2 : Int32) then (if v < ((V 6) (Int32.toNatClampNeg ax)) then (0 : Int32) else (FX6_left I V ax)) else (0 : Int32)))))) else (FX6_dotOf I V ax (((Int32.toInt64 v) - (Int32.toInt64 ((V 3) (Int32.toNatClampNeg ax)))) - (Int32.toInt64 (if ((V 2) (Int32.toNatClampNeg ax)) = (2 : Int32) then (if v < ((V 6) (Int32.toNatClampNeg ax)) then (0 : Int32) else (FX6_left I V ax)) else (0 : Int32))))))] h Q := by
        exact x_iret dX6_placeOf_87 rfl (xri (by unfold FX6_placeOf; rw [if_neg hc_6]) hQ)
      refine x_icmp_ne (tgt := 85) dX6_placeOf_69 (by decide) (fun hc_69 => ?_) (fun hc_69 => ?_)
      · refine x_iload dX6_placeOf_85 rfl ?_
        exact x_ls rfl (by first | rfl | (rw [if_neg hc_69] <;> rfl)) J87
      · refine x_aload_n dX6_placeOf_72 rfl ?_
        refine x_iload_n dX6_placeOf_73 rfl ?_
        refine x_callV (M' := mX6_dots) (mc' := 0) (ms' := 0) (As := [.int ax]) dX6_placeOf_74 gX6_placeOf_X6_dots okX6_dots rfl rfl hM.1 rfl (Nat.le_of_ble_eq_true rfl) (Nat.le_of_ble_eq_true rfl) (Nat.le_refl _) (Nat.le_refl _) (Nat.le_refl _) ?_
        refine kX6_dots hM  ?_
        show xV _ _ _ _ _ _ _ _ _ _ _ _ _
        refine x_iconst (v := 1) dX6_placeOf_77 (by decide) ?_
        refine x_isub dX6_placeOf_78 ?_
        refine x_iload dX6_placeOf_79 rfl ?_
        refine x_isub dX6_placeOf_81 ?_
        refine x_goto (tgt := 87) dX6_placeOf_82 (by decide) ?_
        exact x_ls rfl (by first | rfl | (rw [if_pos hc_69] <;> rfl)) J87
    refine x_icmp_ne (tgt := 50) dX6_placeOf_29 (by decide) (fun hc_29 => ?_) (fun hc_29 => ?_)
    · refine x_iconst (v := 0) dX6_placeOf_50 (by decide) ?_
      exact x_ls rfl (by first | rfl | (rw [if_neg hc_29] <;> rfl)) J51
    · refine x_iload_n dX6_placeOf_32 rfl ?_
      refine x_aload_n dX6_placeOf_33 rfl ?_
      refine x_get 6 dX6_placeOf_34 hM.1 rfl (by decide) (by decide +kernel) rfl ?_
      refine x_iload_n dX6_placeOf_37 rfl ?_
      refine x_iald dX6_placeOf_38 (hM.r 6 (by decide) (by decide)) (by assumption) ?_
      refine x_icmp_lt (tgt := 50) dX6_placeOf_39 (by decide) (fun hc_39 => ?_) (fun hc_39 => ?_)
      · refine x_iconst (v := 0) dX6_placeOf_50 (by decide) ?_
        exact x_ls rfl (by first | rfl | (rw [if_pos hc_29, if_pos hc_39] <;> rfl)) J51
      · refine x_aload_n dX6_placeOf_42 rfl ?_
        refine x_iload_n dX6_placeOf_43 rfl ?_
        refine x_callV (M' := mX6_left) (mc' := 0) (ms' := 0) (As := [.int ax]) dX6_placeOf_44 gX6_placeOf_X6_left okX6_left rfl rfl hM.1 rfl (Nat.le_of_ble_eq_true rfl) (Nat.le_of_ble_eq_true rfl) (Nat.le_refl _) (Nat.le_refl _) (Nat.le_refl _) ?_
        refine kX6_left hM hax ?_
        show xV _ _ _ _ _ _ _ _ _ _ _ _ _
        refine x_goto (tgt := 51) dX6_placeOf_47 (by decide) ?_
        exact x_ls rfl (by first | rfl | (rw [if_pos hc_29, if_neg hc_39] <;> rfl)) J51
  · refine x_bipush (v := (-9)) dX6_placeOf_9 (by decide) ?_
    exact x_iret dX6_placeOf_11 rfl (xri (by unfold FX6_placeOf; rw [if_pos hc_6]) hQ)
def FX6_ticks (I : xMi) (V : Nat → Nat → Int32) (ax : Int32) (t : Int32) : Int32 := (if ((V 2) (Int32.toNatClampNeg ax)) = (2 : Int32) then ((FX6_multiples ((V 3) (Int32.toNatClampNeg ax)) ((V 4) (Int32.toNatClampNeg ax)) t) - (FX6_multiples (((V 5) (Int32.toNatClampNeg ax)) + (1 : Int32)) (((V 6) (Int32.toNatClampNeg ax)) - (1 : Int32)) t)) else (FX6_multiples ((V 3) (Int32.toNatClampNeg ax)) ((V 4) (Int32.toNatClampNeg ax)) t))
set_option maxHeartbeats 4000000 in
set_option maxRecDepth 100000 in
theorem kX6_ticks {G : xG} {l : Launch} {d : Nat} {h : xH} {Q : Option Value → xH → Prop} {A : Nat → Nat} {I : xMi} {V : Nat → Nat → Int32} {ax : Int32} {t : Int32} (hM : xMod G A I V h) (hax : vp_in ax 2) (ht : ¬ t = 0)  (hQ : Q (some (.int (FX6_ticks I V ax t))) h) : xV G l mX6_ticks (d + 2) 0 0 0 0 0 [.ref (A 0), .int ax, .int t, xU] [] h Q := by
  refine x_aload_n dX6_ticks_0 rfl ?_
  refine x_get 3 dX6_ticks_1 hM.1 rfl (by decide) (by decide +kernel) rfl ?_
  refine x_iload_n dX6_ticks_4 rfl ?_
  refine x_iald dX6_ticks_5 (hM.r 3 (by decide) (by decide)) (by assumption) ?_
  refine x_aload_n dX6_ticks_6 rfl ?_
  refine x_get 4 dX6_ticks_7 hM.1 rfl (by decide) (by decide +kernel) rfl ?_
  refine x_iload_n dX6_ticks_10 rfl ?_
  refine x_iald dX6_ticks_11 (hM.r 4 (by decide) (by decide)) (by assumption) ?_
  refine x_iload_n dX6_ticks_12 rfl ?_
  refine x_callS (M' := mX6_multiples) (mc' := 0) (ms' := 0) (As := [.int ((V 3) (Int32.toNatClampNeg ax)), .int ((V 4) (Int32.toNatClampNeg ax)), .int t]) dX6_ticks_13 gX6_ticks_X6_multiples okX6_multiples rfl rfl (Nat.le_of_ble_eq_true rfl) (Nat.le_of_ble_eq_true rfl) (Nat.le_refl _) (Nat.le_refl _) (Nat.le_refl _) ?_
  refine kX6_multiples ht ?_
  show xV _ _ _ _ _ _ _ _ _ _ _ _ _
  refine x_istore_n dX6_ticks_16 (by decide) rfl ?_
  refine x_aload_n dX6_ticks_17 rfl ?_
  refine x_get 2 dX6_ticks_18 hM.1 rfl (by decide) (by decide +kernel) rfl ?_
  refine x_iload_n dX6_ticks_21 rfl ?_
  refine x_iald dX6_ticks_22 (hM.r 2 (by decide) (by decide)) (by assumption) ?_
  refine x_iconst (v := 2) dX6_ticks_23 (by decide) ?_
  have J53 : xV G l mX6_ticks (d + 2) 0 0 0 0 53 [.ref (A 0), .int ax, .int t, .int (FX6_multiples ((V 3) (Int32.toNatClampNeg ax)) ((V 4) (Int32.toNatClampNeg ax)) t)] [.int (if ((V 2) (Int32.toNatClampNeg ax)) = (2 : Int32) then ((FX6_multiples ((V 3) (Int32.toNatClampNeg ax)) ((V 4) (Int32.toNatClampNeg ax)) t) - (FX6_multiples (((V 5) (Int32.toNatClampNeg ax)) + (1 : Int32)) (((V 6) (Int32.toNatClampNeg ax)) - (1 : Int32)) t)) else (FX6_multiples ((V 3) (Int32.toNatClampNeg ax)) ((V 4) (Int32.toNatClampNeg ax)) t))] h Q := by
    exact x_iret dX6_ticks_53 rfl (xri (by unfold FX6_ticks; rfl) hQ)
  refine x_icmp_ne (tgt := 52) dX6_ticks_24 (by decide) (fun hc_24 => ?_) (fun hc_24 => ?_)
  · refine x_iload_n dX6_ticks_52 rfl ?_
    exact x_ls rfl (by first | rfl | (rw [if_neg hc_24] <;> rfl)) J53
  · refine x_iload_n dX6_ticks_27 rfl ?_
    refine x_aload_n dX6_ticks_28 rfl ?_
    refine x_get 5 dX6_ticks_29 hM.1 rfl (by decide) (by decide +kernel) rfl ?_
    refine x_iload_n dX6_ticks_32 rfl ?_
    refine x_iald dX6_ticks_33 (hM.r 5 (by decide) (by decide)) (by assumption) ?_
    refine x_iconst (v := 1) dX6_ticks_34 (by decide) ?_
    refine x_iadd dX6_ticks_35 ?_
    refine x_aload_n dX6_ticks_36 rfl ?_
    refine x_get 6 dX6_ticks_37 hM.1 rfl (by decide) (by decide +kernel) rfl ?_
    refine x_iload_n dX6_ticks_40 rfl ?_
    refine x_iald dX6_ticks_41 (hM.r 6 (by decide) (by decide)) (by assumption) ?_
    refine x_iconst (v := 1) dX6_ticks_42 (by decide) ?_
    refine x_isub dX6_ticks_43 ?_
    refine x_iload_n dX6_ticks_44 rfl ?_
    refine x_callS (M' := mX6_multiples) (mc' := 0) (ms' := 0) (As := [.int (((V 5) (Int32.toNatClampNeg ax)) + (1 : Int32)), .int (((V 6) (Int32.toNatClampNeg ax)) - (1 : Int32)), .int t]) dX6_ticks_45 gX6_ticks_X6_multiples okX6_multiples rfl rfl (Nat.le_of_ble_eq_true rfl) (Nat.le_of_ble_eq_true rfl) (Nat.le_refl _) (Nat.le_refl _) (Nat.le_refl _) ?_
    refine kX6_multiples ht ?_
    show xV _ _ _ _ _ _ _ _ _ _ _ _ _
    refine x_isub dX6_ticks_48 ?_
    refine x_goto (tgt := 53) dX6_ticks_49 (by decide) ?_
    exact x_ls rfl (by first | rfl | (rw [if_pos hc_24] <;> rfl)) J53
def FX6_isSeries (I : xMi) (V : Nat → Nat → Int32) (s : Int32) : Int32 := (FX6_in s (0 : Int32) (I.2.2.1 - (1 : Int32)))
theorem bFX6_isSeries {I : xMi} {V : Nat → Nat → Int32} {s : Int32} : FX6_isSeries I V s = 0 ∨ FX6_isSeries I V s = 1 := by
  unfold FX6_isSeries
  repeat' (first | with_reducible exact Or.inl rfl | with_reducible exact Or.inr rfl | with_reducible exact bFX5_within | with_reducible exact bFX2_holds | with_reducible exact bFX6_in | with_reducible exact bFX6_isValue | with_reducible exact bFX6_isAxis | with_reducible exact bFX6_isStyle | with_reducible exact bFX6_has | split)
set_option maxHeartbeats 4000000 in
set_option maxRecDepth 100000 in
theorem kX6_isSeries {G : xG} {l : Launch} {d : Nat} {h : xH} {Q : Option Value → xH → Prop} {A : Nat → Nat} {I : xMi} {V : Nat → Nat → Int32} {s : Int32} (hM : xMod G A I V h)   (hQ : Q (some (.int (FX6_isSeries I V s))) h) : xV G l mX6_isSeries (d + 1) 0 0 0 0 0 [.ref (A 0), .int s] [] h Q := by
  refine x_iload_n dX6_isSeries_0 rfl ?_
  refine x_iconst (v := 0) dX6_isSeries_1 (by decide) ?_
  refine x_aload_n dX6_isSeries_2 rfl ?_
  refine x_get 7 dX6_isSeries_3 hM.1 rfl (by decide) (by decide +kernel) rfl ?_
  refine x_iconst (v := 1) dX6_isSeries_6 (by decide) ?_
  refine x_isub dX6_isSeries_7 ?_
  refine x_callS (M' := mX6_in) (mc' := 0) (ms' := 0) (As := [.int s, .int (0 : Int32), .int (I.2.2.1 - (1 : Int32))]) dX6_isSeries_8 gX6_isSeries_X6_in okX6_in rfl rfl (Nat.le_of_ble_eq_true rfl) (Nat.le_of_ble_eq_true rfl) (Nat.le_refl _) (Nat.le_refl _) (Nat.le_refl _) ?_
  refine kX6_in  ?_
  show xV _ _ _ _ _ _ _ _ _ _ _ _ _
  exact x_zret dX6_isSeries_11 rfl (nbz (by repeat' (first | with_reducible exact Or.inl rfl | with_reducible exact Or.inr rfl | with_reducible exact bFX5_within | with_reducible exact bFX2_holds | with_reducible exact bFX6_in | with_reducible exact bFX6_isValue | with_reducible exact bFX6_isAxis | with_reducible exact bFX6_isStyle | with_reducible exact bFX6_has | split))) (xri (by unfold FX6_isSeries; rfl) hQ)
def FX6_cellOf (I : xMi) (V : Nat → Nat → Int32) (x : Int32) (y : Int32) : Int32 := ((((I.2.1 - (1 : Int32)) - (y / (4 : Int32))) * I.1) + (x / (2 : Int32)))
set_option maxHeartbeats 4000000 in
set_option maxRecDepth 100000 in
theorem kX6_cellOf {G : xG} {l : Launch} {d : Nat} {h : xH} {Q : Option Value → xH → Prop} {A : Nat → Nat} {I : xMi} {V : Nat → Nat → Int32} {x : Int32} {y : Int32} (hM : xMod G A I V h)   (hQ : Q (some (.int (FX6_cellOf I V x y))) h) : xV G l mX6_cellOf d 0 0 0 0 0 [.ref (A 0), .int x, .int y] [] h Q := by
  refine x_aload_n dX6_cellOf_0 rfl ?_
  refine x_get 1 dX6_cellOf_1 hM.1 rfl (by decide) (by decide +kernel) rfl ?_
  refine x_iconst (v := 1) dX6_cellOf_4 (by decide) ?_
  refine x_isub dX6_cellOf_5 ?_
  refine x_iload_n dX6_cellOf_6 rfl ?_
  refine x_iconst (v := 4) dX6_cellOf_7 (by decide) ?_
  refine x_idiv dX6_cellOf_8 (by decide) ?_
  refine x_isub dX6_cellOf_9 ?_
  refine x_aload_n dX6_cellOf_10 rfl ?_
  refine x_get 0 dX6_cellOf_11 hM.1 rfl (by decide) (by decide +kernel) rfl ?_
  refine x_imul dX6_cellOf_14 ?_
  refine x_iload_n dX6_cellOf_15 rfl ?_
  refine x_iconst (v := 2) dX6_cellOf_16 (by decide) ?_
  refine x_idiv dX6_cellOf_17 (by decide) ?_
  refine x_iadd dX6_cellOf_18 ?_
  exact x_iret dX6_cellOf_19 rfl (xri (by unfold FX6_cellOf; rfl) hQ)
def FX6_isCell (I : xMi) (V : Nat → Nat → Int32) (x : Int32) (y : Int32) : Int32 := (if (FX6_in x (0 : Int32) (I.1 - (1 : Int32))) = 0 then (0 : Int32) else (if (FX6_in y (0 : Int32) (I.2.1 - (1 : Int32))) = 0 then (0 : Int32) else (1 : Int32)))
theorem bFX6_isCell {I : xMi} {V : Nat → Nat → Int32} {x : Int32} {y : Int32} : FX6_isCell I V x y = 0 ∨ FX6_isCell I V x y = 1 := by
  unfold FX6_isCell
  repeat' (first | with_reducible exact Or.inl rfl | with_reducible exact Or.inr rfl | with_reducible exact bFX5_within | with_reducible exact bFX2_holds | with_reducible exact bFX6_in | with_reducible exact bFX6_isValue | with_reducible exact bFX6_isAxis | with_reducible exact bFX6_isStyle | with_reducible exact bFX6_has | with_reducible exact bFX6_isSeries | split)
set_option maxHeartbeats 4000000 in
set_option maxRecDepth 100000 in
theorem kX6_isCell {G : xG} {l : Launch} {d : Nat} {h : xH} {Q : Option Value → xH → Prop} {A : Nat → Nat} {I : xMi} {V : Nat → Nat → Int32} {x : Int32} {y : Int32} (hM : xMod G A I V h)   (hQ : Q (some (.int (FX6_isCell I V x y))) h) : xV G l mX6_isCell (d + 1) 0 0 0 0 0 [.ref (A 0), .int x, .int y] [] h Q := by
  refine x_iload_n dX6_isCell_0 rfl ?_
  refine x_iconst (v := 0) dX6_isCell_1 (by decide) ?_
  refine x_aload_n dX6_isCell_2 rfl ?_
  refine x_get 0 dX6_isCell_3 hM.1 rfl (by decide) (by decide +kernel) rfl ?_
  refine x_iconst (v := 1) dX6_isCell_6 (by decide) ?_
  refine x_isub dX6_isCell_7 ?_
  refine x_callS (M' := mX6_in) (mc' := 0) (ms' := 0) (As := [.int x, .int (0 : Int32), .int (I.1 - (1 : Int32))]) dX6_isCell_8 gX6_isCell_X6_in okX6_in rfl rfl (Nat.le_of_ble_eq_true rfl) (Nat.le_of_ble_eq_true rfl) (Nat.le_refl _) (Nat.le_refl _) (Nat.le_refl _) ?_
  refine kX6_in  ?_
  show xV _ _ _ _ _ _ _ _ _ _ _ _ _
  have J33 : xV G l mX6_isCell (d + 1) 0 0 0 0 33 [.ref (A 0), .int x, .int y] [.int (if (FX6_in x (0 : Int32) (I.1 - (1 : Int32))) = 0 then (0 : Int32) else (if (FX6_in y (0 : Int32) (I.2.1 - (1 : Int32))) = 0 then (0 : Int32) else (1 : Int32)))] h Q := by
    exact x_zret dX6_isCell_33 rfl (nbz (by repeat' (first | with_reducible exact Or.inl rfl | with_reducible exact Or.inr rfl | with_reducible exact bFX5_within | with_reducible exact bFX2_holds | with_reducible exact bFX6_in | with_reducible exact bFX6_isValue | with_reducible exact bFX6_isAxis | with_reducible exact bFX6_isStyle | with_reducible exact bFX6_has | with_reducible exact bFX6_isSeries | split))) (xri (by unfold FX6_isCell; rfl) hQ)
  refine x_if_eq (tgt := 32) dX6_isCell_11 (by decide) (fun hc_11 => ?_) (fun hc_11 => ?_)
  · refine x_iconst (v := 0) dX6_isCell_32 (by decide) ?_
    exact x_ls rfl (by first | rfl | (rw [if_pos hc_11] <;> rfl)) J33
  · refine x_iload_n dX6_isCell_14 rfl ?_
    refine x_iconst (v := 0) dX6_isCell_15 (by decide) ?_
    refine x_aload_n dX6_isCell_16 rfl ?_
    refine x_get 1 dX6_isCell_17 hM.1 rfl (by decide) (by decide +kernel) rfl ?_
    refine x_iconst (v := 1) dX6_isCell_20 (by decide) ?_
    refine x_isub dX6_isCell_21 ?_
    refine x_callS (M' := mX6_in) (mc' := 0) (ms' := 0) (As := [.int y, .int (0 : Int32), .int (I.2.1 - (1 : Int32))]) dX6_isCell_22 gX6_isCell_X6_in okX6_in rfl rfl (Nat.le_of_ble_eq_true rfl) (Nat.le_of_ble_eq_true rfl) (Nat.le_refl _) (Nat.le_refl _) (Nat.le_refl _) ?_
    refine kX6_in  ?_
    show xV _ _ _ _ _ _ _ _ _ _ _ _ _
    refine x_if_eq (tgt := 32) dX6_isCell_25 (by decide) (fun hc_25 => ?_) (fun hc_25 => ?_)
    · refine x_iconst (v := 0) dX6_isCell_32 (by decide) ?_
      exact x_ls rfl (by first | rfl | (rw [if_neg hc_11, if_pos hc_25] <;> rfl)) J33
    · refine x_iconst (v := 1) dX6_isCell_28 (by decide) ?_
      refine x_goto (tgt := 33) dX6_isCell_29 (by decide) ?_
      exact x_ls rfl (by first | rfl | (rw [if_neg hc_11, if_neg hc_25] <;> rfl)) J33
