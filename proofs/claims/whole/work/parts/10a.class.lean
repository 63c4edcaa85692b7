abbrev xAo (ed : Nat) (md n : Int32) : va_E := xOb 0 [.int md, .ref ed, .int n]
def xSl (B : Nat → Nat → Nat) (N : Nat) : Nat → Option Nat := fun k => if k < N then some (B k 0) else none
theorem xSl_at {B : Nat → Nat → Nat} {N j : Nat} (h : j < N) (h2 : j < 2 ^ 31) : xSl B N (nI j).toNatClampNeg = some (B j 0) := by
  rw [nI_clamp h2, xSl, if_pos h]
/-- the class: its page, its list of N series, its labels -/
def xCls (G : xG) (sc pg sx sy al ed : Nat) (C : Nat → Nat) (B : Nat → Nat → Nat) (p : xPv) (n : Int32) (U : Nat → Nat → Int32) (md : Int32) (N : Nat) (I : Nat → xSi) (V : Nat → Nat → Nat → Int32) (h : xH) : Prop :=
  h sc = some (xOb 6 [.ref pg, .ref al, .ref (C 0)]) ∧ xPg pg sx sy p h ∧ xLab G C n U h ∧ h al = some (xAo ed md (nI N)) ∧ (N ≠ 0 → h ed = some (xRo G 10 (xSl B N))) ∧ (∀ k, k < N → xSer G (B k) pg (I k) (V k) h) ∧ N ≤ 6
def FJ6_bc0 (v : Int32) : Int32 := (v - (((v).toUInt32 >>> (Int32.toUInt32 (1 : Int32) &&& Int32.toUInt32 31)).toInt32 &&& (1431655765 : Int32)))
def FJ6_bc1 (v : Int32) : Int32 := (((FJ6_bc0 v) &&& (858993459 : Int32)) + ((((FJ6_bc0 v)).toUInt32 >>> (Int32.toUInt32 (2 : Int32) &&& Int32.toUInt32 31)).toInt32 &&& (858993459 : Int32)))
def FJ6_bc2 (v : Int32) : Int32 := (((FJ6_bc1 v) + (((FJ6_bc1 v)).toUInt32 >>> (Int32.toUInt32 (4 : Int32) &&& Int32.toUInt32 31)).toInt32) &&& (252645135 : Int32))
def FJ6_bitCount_0f7a4 (v : Int32) : Int32 := ((((FJ6_bc2 v) + (((FJ6_bc2 v)).toUInt32 >>> (Int32.toUInt32 (8 : Int32) &&& Int32.toUInt32 31)).toInt32) + ((((FJ6_bc2 v) + (((FJ6_bc2 v)).toUInt32 >>> (Int32.toUInt32 (8 : Int32) &&& Int32.toUInt32 31)).toInt32)).toUInt32 >>> (Int32.toUInt32 (16 : Int32) &&& Int32.toUInt32 31)).toInt32) &&& (63 : Int32))
set_option maxHeartbeats 4000000 in
set_option maxRecDepth 100000 in
theorem kJ6_bitCount_0f7a4 {G : xG} {l : Launch} {d : Nat} {h : xH} {Q : Option Value → xH → Prop} {v : Int32}   (hQ : Q (some (.int (FJ6_bitCount_0f7a4 v))) h) : xV G l mJ6_bitCount_0f7a4 d 0 0 0 0 0 [.int v] [] h Q := by
  refine x_iload_n dJ6_bitCount_0f7a4_0 rfl ?_
  refine x_iload_n dJ6_bitCount_0f7a4_1 rfl ?_
  refine x_iconst (v := 1) dJ6_bitCount_0f7a4_2 (by decide) ?_
  refine x_iushr dJ6_bitCount_0f7a4_3 rfl ?_
  refine x_ldcw (v := 1431655765) dJ6_bitCount_0f7a4_4 (by decide +kernel) ?_
  refine x_iand dJ6_bitCount_0f7a4_7 ?_
  refine x_isub dJ6_bitCount_0f7a4_8 ?_
  refine x_ls (st' := [.int (FJ6_bc0 v)]) rfl rfl ?_
  refine x_istore_n dJ6_bitCount_0f7a4_9 (by decide) rfl ?_
  refine x_iload_n dJ6_bitCount_0f7a4_10 rfl ?_
  refine x_ldcw (v := 858993459) dJ6_bitCount_0f7a4_11 (by decide +kernel) ?_
  refine x_iand dJ6_bitCount_0f7a4_14 ?_
  refine x_iload_n dJ6_bitCount_0f7a4_15 rfl ?_
  refine x_iconst (v := 2) dJ6_bitCount_0f7a4_16 (by decide) ?_
  refine x_iushr dJ6_bitCount_0f7a4_17 rfl ?_
  refine x_ldcw (v := 858993459) dJ6_bitCount_0f7a4_18 (by decide +kernel) ?_
  refine x_iand dJ6_bitCount_0f7a4_21 ?_
  refine x_iadd dJ6_bitCount_0f7a4_22 ?_
  refine x_ls (st' := [.int (FJ6_bc1 v)]) rfl rfl ?_
  refine x_istore_n dJ6_bitCount_0f7a4_23 (by decide) rfl ?_
  refine x_iload_n dJ6_bitCount_0f7a4_24 rfl ?_
  refine x_iload_n dJ6_bitCount_0f7a4_25 rfl ?_
  refine x_iconst (v := 4) dJ6_bitCount_0f7a4_26 (by decide) ?_
  refine x_iushr dJ6_bitCount_0f7a4_27 rfl ?_
  refine x_iadd dJ6_bitCount_0f7a4_28 ?_
  refine x_ldcw (v := 252645135) dJ6_bitCount_0f7a4_29 (by decide +kernel) ?_
  refine x_iand dJ6_bitCount_0f7a4_32 ?_
  refine x_ls (st' := [.int (FJ6_bc2 v)]) rfl rfl ?_
  refine x_istore_n dJ6_bitCount_0f7a4_33 (by decide) rfl ?_
  refine x_iload_n dJ6_bitCount_0f7a4_34 rfl ?_
  refine x_iload_n dJ6_bitCount_0f7a4_35 rfl ?_
  refine x_bipush (v := 8) dJ6_bitCount_0f7a4_36 (by decide) ?_
  refine x_iushr dJ6_bitCount_0f7a4_38 rfl ?_
  refine x_iadd dJ6_bitCount_0f7a4_39 ?_
  refine x_istore_n dJ6_bitCount_0f7a4_40 (by decide) rfl ?_
  refine x_iload_n dJ6_bitCount_0f7a4_41 rfl ?_
  refine x_iload_n dJ6_bitCount_0f7a4_42 rfl ?_
  refine x_bipush (v := 16) dJ6_bitCount_0f7a4_43 (by decide) ?_
  refine x_iushr dJ6_bitCount_0f7a4_45 rfl ?_
  refine x_iadd dJ6_bitCount_0f7a4_46 ?_
  refine x_istore_n dJ6_bitCount_0f7a4_47 (by decide) rfl ?_
  refine x_iload_n dJ6_bitCount_0f7a4_48 rfl ?_
  refine x_bipush (v := 63) dJ6_bitCount_0f7a4_49 (by decide) ?_
  refine x_iand dJ6_bitCount_0f7a4_51 ?_
  exact x_iret dJ6_bitCount_0f7a4_52 rfl (xri (by unfold FJ6_bitCount_0f7a4; rfl) hQ)
set_option maxHeartbeats 4000000 in
set_option maxRecDepth 100000 in
theorem kJ3_checkIndex_8e157 {G : xG} {l : Launch} {d : Nat} {h : xH} {Q : Option Value → xH → Prop} {i n : Int32} (h1 : ¬ i < 0) (h2 : i < n) (hQ : Q (some (.int i)) h) : xV G l mJ3_checkIndex_8e157 d 0 0 0 0 0 [.int i, .int n, .null] [] h Q := by
  refine x_iload_n dJ3_checkIndex_8e157_0 rfl ?_
  refine x_if_lt (tgt := 9) dJ3_checkIndex_8e157_1 (by decide) (fun z9 => absurd z9 h1) (fun _ => ?_)
  refine x_iload_n dJ3_checkIndex_8e157_4 rfl ?_
  refine x_iload_n dJ3_checkIndex_8e157_5 rfl ?_
  refine x_icmp_lt (tgt := 16) dJ3_checkIndex_8e157_6 (by decide) (fun _ => ?_) (fun z9 => absurd h2 z9)
  refine x_iload_n dJ3_checkIndex_8e157_16 rfl ?_
  exact x_iret dJ3_checkIndex_8e157_17 rfl hQ
set_option maxHeartbeats 4000000 in
set_option maxRecDepth 100000 in
theorem kJ15_checkIndex_7cf53 {G : xG} {l : Launch} {d : Nat} {h : xH} {Q : Option Value → xH → Prop} {i n : Int32} (h1 : ¬ i < 0) (h2 : i < n) (hQ : Q (some (.int i)) h) : xV G l mJ15_checkIndex_7cf53 (d + 1) 0 0 0 0 0 [.int i, .int n] [] h Q := by
  refine x_iload_n dJ15_checkIndex_7cf53_0 rfl ?_
  refine x_iload_n dJ15_checkIndex_7cf53_1 rfl ?_
  refine x_aconst_null dJ15_checkIndex_7cf53_2 ?_
  refine x_callS (M' := mJ3_checkIndex_8e157) (mc' := 0) (ms' := 0) (As := [.int i, .int n, .null]) dJ15_checkIndex_7cf53_3 gJ15_checkIndex_7cf53_J3_checkIndex_8e157 okJ3_checkIndex_8e157 rfl rfl (Nat.le_of_ble_eq_true rfl) (Nat.le_of_ble_eq_true rfl) (Nat.le_refl _) (Nat.le_refl _) (Nat.le_refl _) ?_
  refine kJ3_checkIndex_8e157 h1 h2 ?_
  show xV _ _ _ _ _ _ _ _ _ _ _ _ _
  exact x_iret dJ15_checkIndex_7cf53_6 rfl hQ
set_option maxHeartbeats 4000000 in
set_option maxRecDepth 100000 in
theorem kJx4a65c_size_8abf5 {G : xG} {l : Launch} {d : Nat} {h : xH} {Q : Option Value → xH → Prop} {al ed : Nat} {md n : Int32} (hal : h al = some (xAo ed md n)) (hQ : Q (some (.int n)) h) : xV G l mJx4a65c_size_8abf5 d 0 0 0 0 0 [.ref al] [] h Q := by
  refine x_aload_n dJx4a65c_size_8abf5_0 rfl ?_
  refine x_get 2 dJx4a65c_size_8abf5_1 hal rfl (by decide) (by decide +kernel) rfl ?_
  exact x_iret dJx4a65c_size_8abf5_4 rfl hQ
set_option maxHeartbeats 4000000 in
set_option maxRecDepth 100000 in
theorem kJx4a65c_elementData_915e3 {G : xG} {l : Launch} {d : Nat} {h : xH} {Q : Option Value → xH → Prop} {al ed : Nat} {md : Int32} {N j : Nat} {B : Nat → Nat → Nat} (hal : h al = some (xAo ed md (nI N))) (hed : h ed = some (xRo G 10 (xSl B N))) (hj : j < N) (hN : N ≤ 6) (hQ : Q (some (.ref (B j 0))) h) : xV G l mJx4a65c_elementData_915e3 d 0 0 0 0 0 [.ref al, .int (nI j)] [] h Q := by
  refine x_aload_n dJx4a65c_elementData_915e3_0 rfl ?_
  refine x_get 1 dJx4a65c_elementData_915e3_1 hal rfl (by decide) (by decide +kernel) rfl ?_
  refine x_iload_n dJx4a65c_elementData_915e3_4 rfl ?_
  refine x_aald dJx4a65c_elementData_915e3_5 hed (vp_in_nI (by omega) (by decide)) (xSl_at hj (by omega)) ?_
  exact x_aret dJx4a65c_elementData_915e3_6 rfl (Or.inl ⟨_, rfl⟩) (Or.inr ⟨_, rfl⟩) hQ
set_option maxHeartbeats 4000000 in
set_option maxRecDepth 100000 in
theorem kJx4a65c_get_915e3 {G : xG} {l : Launch} {d : Nat} {h : xH} {Q : Option Value → xH → Prop} {al ed : Nat} {md : Int32} {N j : Nat} {B : Nat → Nat → Nat} (hal : h al = some (xAo ed md (nI N))) (hed : h ed = some (xRo G 10 (xSl B N))) (hj : j < N) (hN : N ≤ 6) (hQ : Q (some (.ref (B j 0))) h) : xV G l mJx4a65c_get_915e3 (d + 2) 0 0 0 0 0 [.ref al, .int (nI j)] [] h Q := by
  refine x_iload_n dJx4a65c_get_915e3_0 rfl ?_
  refine x_aload_n dJx4a65c_get_915e3_1 rfl ?_
  refine x_get 2 dJx4a65c_get_915e3_2 hal rfl (by decide) (by decide +kernel) rfl ?_
  refine x_callS (M' := mJ15_checkIndex_7cf53) (mc' := 0) (ms' := 0) (As := [.int (nI j), .int (nI N)]) dJx4a65c_get_915e3_5 gJx4a65c_get_915e3_J15_checkIndex_7cf53 okJ15_checkIndex_7cf53 rfl rfl (Nat.le_of_ble_eq_true rfl) (Nat.le_of_ble_eq_true rfl) (Nat.le_refl _) (Nat.le_refl _) (Nat.le_refl _) ?_
  refine kJ15_checkIndex_7cf53 (nI_pos (by omega)) (nI_lt hj (by omega)) ?_
  show xV _ _ _ _ _ _ _ _ _ _ _ _ _
  refine x_pop dJx4a65c_get_915e3_8 rfl ?_
  refine x_aload_n dJx4a65c_get_915e3_9 rfl ?_
  refine x_iload_n dJx4a65c_get_915e3_10 rfl ?_
  refine x_callV (M' := mJx4a65c_elementData_915e3) (mc' := 0) (ms' := 0) (As := [.int (nI j)]) dJx4a65c_get_915e3_11 gJx4a65c_get_915e3_Jx4a65c_elementData_915e3 okJx4a65c_elementData_915e3 rfl rfl hal rfl (Nat.le_of_ble_eq_true rfl) (Nat.le_of_ble_eq_true rfl) (Nat.le_refl _) (Nat.le_refl _) (Nat.le_refl _) ?_
  refine kJx4a65c_elementData_915e3 hal hed hj hN ?_
  show xV _ _ _ _ _ _ _ _ _ _ _ _ _
  exact x_aret dJx4a65c_get_915e3_14 rfl (Or.inl ⟨_, rfl⟩) (Or.inr ⟨_, rfl⟩) hQ
def FX5_isStyle (w v : Int32) : Int32 := (if w = 0 then (FX5_within v (0 : Int32) (4 : Int32)) else (if w = 1 then (FX5_within v (0 : Int32) (9 : Int32)) else (if w = 2 then (FX5_within v (33 : Int32) (126 : Int32)) else (0 : Int32))))
theorem bFX5_isStyle {w v : Int32} : FX5_isStyle w v = 0 ∨ FX5_isStyle w v = 1 := by
  unfold FX5_isStyle
  repeat' (first | with_reducible exact Or.inl rfl | with_reducible exact Or.inr rfl | with_reducible exact bFX5_within | with_reducible exact bFX2_holds | with_reducible exact bFX1_has | with_reducible exact bFX3_has | with_reducible exact bFX3_isPoint | with_reducible exact bFX3_isSeen | split)
set_option maxHeartbeats 4000000 in
set_option maxRecDepth 100000 in
theorem kX5_isStyle {G : xG} {l : Launch} {d : Nat} {h : xH} {Q : Option Value → xH → Prop} {w v : Int32}   (hQ : Q (some (.int (FX5_isStyle w v))) h) : xV G l mX5_isStyle (d + 1) 0 0 0 0 0 [.int w, .int v] [] h Q := by
  refine x_iload_n dX5_isStyle_0 rfl ?_
  by_cases hs_1_0 : w = 0
  · refine x_tcase hs_1_0 (tgt := 28) (off := 27) dX5_isStyle_1 (by decide) (by decide) (by decide) (by decide) ?_
    refine x_iload_n dX5_isStyle_28 rfl ?_
    refine x_iconst (v := 0) dX5_isStyle_29 (by decide) ?_
    refine x_iconst (v := 4) dX5_isStyle_30 (by decide) ?_
    refine x_callS (M' := mX5_within) (mc' := 0) (ms' := 0) (As := [.int v, .int (0 : Int32), .int (4 : Int32)]) dX5_isStyle_31 gX5_isStyle_X5_within okX5_within rfl rfl (Nat.le_of_ble_eq_true rfl) (Nat.le_of_ble_eq_true rfl) (Nat.le_refl _) (Nat.le_refl _) (Nat.le_refl _) ?_
    refine kX5_within  ?_
    show xV _ _ _ _ _ _ _ _ _ _ _ _ _
    exact x_zret dX5_isStyle_34 rfl (nbz (by repeat' (first | with_reducible exact Or.inl rfl | with_reducible exact Or.inr rfl | with_reducible exact bFX5_within | with_reducible exact bFX2_holds | with_reducible exact bFX1_has | with_reducible exact bFX3_has | with_reducible exact bFX3_isPoint | with_reducible exact bFX3_isSeen | split))) (xri (by unfold FX5_isStyle; rw [if_pos hs_1_0]) hQ)
  by_cases hs_1_1 : w = 1
  · refine x_tcase hs_1_1 (tgt := 35) (off := 34) dX5_isStyle_1 (by decide) (by decide) (by decide) (by decide) ?_
    refine x_iload_n dX5_isStyle_35 rfl ?_
    refine x_iconst (v := 0) dX5_isStyle_36 (by decide) ?_
    refine x_bipush (v := 9) dX5_isStyle_37 (by decide) ?_
    refine x_callS (M' := mX5_within) (mc' := 0) (ms' := 0) (As := [.int v, .int (0 : Int32), .int (9 : Int32)]) dX5_isStyle_39 gX5_isStyle_X5_within okX5_within rfl rfl (Nat.le_of_ble_eq_true rfl) (Nat.le_of_ble_eq_true rfl) (Nat.le_refl _) (Nat.le_refl _) (Nat.le_refl _) ?_
    refine kX5_within  ?_
    show xV _ _ _ _ _ _ _ _ _ _ _ _ _
    exact x_zret dX5_isStyle_42 rfl (nbz (by repeat' (first | with_reducible exact Or.inl rfl | with_reducible exact Or.inr rfl | with_reducible exact bFX5_within | with_reducible exact bFX2_holds | with_reducible exact bFX1_has | with_reducible exact bFX3_has | with_reducible exact bFX3_isPoint | with_reducible exact bFX3_isSeen | split))) (xri (by unfold FX5_isStyle; rw [if_neg hs_1_0, if_pos hs_1_1]) hQ)
  by_cases hs_1_2 : w = 2
  · refine x_tcase hs_1_2 (tgt := 43) (off := 42) dX5_isStyle_1 (by decide) (by decide) (by decide) (by decide) ?_
    refine x_iload_n dX5_isStyle_43 rfl ?_
    refine x_bipush (v := 33) dX5_isStyle_44 (by decide) ?_
    refine x_bipush (v := 126) dX5_isStyle_46 (by decide) ?_
    refine x_callS (M' := mX5_within) (mc' := 0) (ms' := 0) (As := [.int v, .int (33 : Int32), .int (126 : Int32)]) dX5_isStyle_48 gX5_isStyle_X5_within okX5_within rfl rfl (Nat.le_of_ble_eq_true rfl) (Nat.le_of_ble_eq_true rfl) (Nat.le_refl _) (Nat.le_refl _) (Nat.le_refl _) ?_
    refine kX5_within  ?_
    show xV _ _ _ _ _ _ _ _ _ _ _ _ _
    exact x_zret dX5_isStyle_51 rfl (nbz (by repeat' (first | with_reducible exact Or.inl rfl | with_reducible exact Or.inr rfl | with_reducible exact bFX5_within | with_reducible exact bFX2_holds | with_reducible exact bFX1_has | with_reducible exact bFX3_has | with_reducible exact bFX3_isPoint | with_reducible exact bFX3_isSeen | split))) (xri (by unfold FX5_isStyle; rw [if_neg hs_1_0, if_neg hs_1_1, if_pos hs_1_2]) hQ)
  have z_1_0 : Int32.toInt (w) ≠ 0 := fun q => hs_1_0 (Int32.toInt_inj.mp (by rw [q]; rfl))
  have z_1_1 : Int32.toInt (w) ≠ 1 := fun q => hs_1_1 (Int32.toInt_inj.mp (by rw [q]; rfl))
  have z_1_2 : Int32.toInt (w) ≠ 2 := fun q => hs_1_2 (Int32.toInt_inj.mp (by rw [q]; rfl))
  refine x_tout (tgt := 52) dX5_isStyle_1 (by omega) (by decide) ?_
  refine x_iconst (v := 0) dX5_isStyle_52 (by decide) ?_
  exact x_zret dX5_isStyle_53 rfl rfl (xri (by unfold FX5_isStyle; rw [if_neg hs_1_0, if_neg hs_1_1, if_neg hs_1_2]) hQ)
def FX5_firstColumn (w x q : Int32) : Int32 := (if w = 0 then (x + (1 : Int32)) else (if w = 1 then (x - q) else x))
set_option maxHeartbeats 4000000 in
set_option maxRecDepth 100000 in
theorem kX5_firstColumn {G : xG} {l : Launch} {d : Nat} {h : xH} {Q : Option Value → xH → Prop} {w x q : Int32}   (hQ : Q (some (.int (FX5_firstColumn w x q))) h) : xV G l mX5_firstColumn d 0 0 0 0 0 [.int w, .int x, .int q] [] h Q := by
  refine x_iload_n dX5_firstColumn_0 rfl ?_
  by_cases hs_1_0 : w = 0
  · refine x_lcase hs_1_0 (tgt := 28) (off := 27) dX5_firstColumn_1 (by decide) (by decide) (by decide) ?_
    refine x_iload_n dX5_firstColumn_28 rfl ?_
    refine x_iconst (v := 1) dX5_firstColumn_29 (by decide) ?_
    refine x_iadd dX5_firstColumn_30 ?_
    exact x_iret dX5_firstColumn_31 rfl (xri (by unfold FX5_firstColumn; rw [if_pos hs_1_0]) hQ)
  by_cases hs_1_1 : w = 1
  · refine x_lcase hs_1_1 (tgt := 32) (off := 31) dX5_firstColumn_1 (by decide) (by decide) (by decide) ?_
    refine x_iload_n dX5_firstColumn_32 rfl ?_
    refine x_iload_n dX5_firstColumn_33 rfl ?_
    refine x_isub dX5_firstColumn_34 ?_
    exact x_iret dX5_firstColumn_35 rfl (xri (by unfold FX5_firstColumn; rw [if_neg hs_1_0, if_pos hs_1_1]) hQ)
  refine x_look (tgt := 36) dX5_firstColumn_1 (by decide) (off := 35) (by show Op.lookupswitch.offset [(0, 27), (1, 31)] 35 _ = 35; rw [lv_osw (a := 0) hs_1_0 rfl, lv_osw (a := 1) hs_1_1 rfl]; rfl) (by decide) ?_
  refine x_iload_n dX5_firstColumn_36 rfl ?_
  exact x_iret dX5_firstColumn_37 rfl (xri (by unfold FX5_firstColumn; rw [if_neg hs_1_0, if_neg hs_1_1]) hQ)
def FX5_labelRow (w y : Int32) : Int32 := (if w = 2 then (y - (1 : Int32)) else (if w = 3 then (y + (1 : Int32)) else y))
set_option maxHeartbeats 4000000 in
set_option maxRecDepth 100000 in
theorem kX5_labelRow {G : xG} {l : Launch} {d : Nat} {h : xH} {Q : Option Value → xH → Prop} {w y : Int32}   (hQ : Q (some (.int (FX5_labelRow w y))) h) : xV G l mX5_labelRow d 0 0 0 0 0 [.int w, .int y] [] h Q := by
  refine x_iload_n dX5_labelRow_0 rfl ?_
  by_cases hs_1_2 : w = 2
  · refine x_lcase hs_1_2 (tgt := 28) (off := 27) dX5_labelRow_1 (by decide) (by decide) (by decide) ?_
    refine x_iload_n dX5_labelRow_28 rfl ?_
    refine x_iconst (v := 1) dX5_labelRow_29 (by decide) ?_
    refine x_isub dX5_labelRow_30 ?_
    exact x_iret dX5_labelRow_31 rfl (xri (by unfold FX5_labelRow; rw [if_pos hs_1_2]) hQ)
  by_cases hs_1_3 : w = 3
  · refine x_lcase hs_1_3 (tgt := 32) (off := 31) dX5_labelRow_1 (by decide) (by decide) (by decide) ?_
    refine x_iload_n dX5_labelRow_32 rfl ?_
    refine x_iconst (v := 1) dX5_labelRow_33 (by decide) ?_
    refine x_iadd dX5_labelRow_34 ?_
    exact x_iret dX5_labelRow_35 rfl (xri (by unfold FX5_labelRow; rw [if_neg hs_1_2, if_pos hs_1_3]) hQ)
  refine x_look (tgt := 36) dX5_labelRow_1 (by decide) (off := 35) (by show Op.lookupswitch.offset [(2, 27), (3, 31)] 35 _ = 35; rw [lv_osw (a := 2) hs_1_2 rfl, lv_osw (a := 3) hs_1_3 rfl]; rfl) (by decide) ?_
  refine x_iload_n dX5_labelRow_36 rfl ?_
  exact x_iret dX5_labelRow_37 rfl (xri (by unfold FX5_labelRow; rw [if_neg hs_1_2, if_neg hs_1_3]) hQ)
set_option maxHeartbeats 4000000 in
set_option maxRecDepth 100000 in
theorem kX5_seriesOf {G : xG} {l : Launch} {d : Nat} {h : xH} {Q : Option Value → xH → Prop} {sc pg sx sy al ed : Nat} {C : Nat → Nat} {B : Nat → Nat → Nat} {p : xPv} {n : Int32} {U : Nat → Nat → Int32} {md : Int32} {N : Nat} {I : Nat → xSi} {V : Nat → Nat → Nat → Int32} {j : Nat} (hK : xCls G sc pg sx sy al ed C B p n U md N I V h) (hj : j < N) (hQ : Q (some (.ref (B j 0))) h) : xV G l mX5_seriesOf (d + 3) 0 0 0 0 0 [.ref sc, .int (nI j)] [] h Q := by
  refine x_iload_n dX5_seriesOf_0 rfl ?_
  refine x_if_lt (tgt := 29) dX5_seriesOf_1 (by decide) (fun z9 => absurd z9 (nI_pos (by have := hK.2.2.2.2.2.2; omega))) (fun _ => ?_)
  refine x_iload_n dX5_seriesOf_4 rfl ?_
  refine x_aload_n dX5_seriesOf_5 rfl ?_
  refine x_get 1 dX5_seriesOf_6 hK.1 rfl (by decide) (by decide +kernel) rfl ?_
  refine x_callV (M' := mJx4a65c_size_8abf5) (mc' := 0) (ms' := 0) (As := []) dX5_seriesOf_9 gX5_seriesOf_Jx4a65c_size_8abf5 okJx4a65c_size_8abf5 rfl rfl hK.2.2.2.1 rfl (Nat.le_of_ble_eq_true rfl) (Nat.le_of_ble_eq_true rfl) (Nat.le_refl _) (Nat.le_refl _) (Nat.le_refl _) ?_
  refine kJx4a65c_size_8abf5 hK.2.2.2.1 ?_
  show xV _ _ _ _ _ _ _ _ _ _ _ _ _
  refine x_icmp_ge (tgt := 29) dX5_seriesOf_12 (by decide) (fun z9 => absurd z9 (nI_ge hj (by have := hK.2.2.2.2.2.2; omega))) (fun _ => ?_)
  refine x_aload_n dX5_seriesOf_15 rfl ?_
  refine x_get 1 dX5_seriesOf_16 hK.1 rfl (by decide) (by decide +kernel) rfl ?_
  refine x_iload_n dX5_seriesOf_19 rfl ?_
  refine x_callV (M' := mJx4a65c_get_915e3) (mc' := 0) (ms' := 0) (As := [.int (nI j)]) dX5_seriesOf_20 gX5_seriesOf_Jx4a65c_get_915e3 okJx4a65c_get_915e3 rfl rfl hK.2.2.2.1 rfl (Nat.le_of_ble_eq_true rfl) (Nat.le_of_ble_eq_true rfl) (Nat.le_refl _) (Nat.le_refl _) (Nat.le_refl _) ?_
  refine kJx4a65c_get_915e3 (j := j) hK.2.2.2.1 (hK.2.2.2.2.1 (by omega)) hj hK.2.2.2.2.2.2 ?_
  show xV _ _ _ _ _ _ _ _ _ _ _ _ _
  refine x_cast dX5_seriesOf_23 (hK.2.2.2.2.2.1 j hj).1 rfl (by decide +kernel) ?_
  refine x_goto (tgt := 30) dX5_seriesOf_26 (by decide) ?_
  exact x_aret dX5_seriesOf_30 rfl (Or.inl ⟨_, rfl⟩) (Or.inr ⟨_, rfl⟩) hQ
set_option maxHeartbeats 4000000 in
set_option maxRecDepth 100000 in
theorem kX5_seriesOfN {G : xG} {l : Launch} {d : Nat} {h : xH} {Q : Option Value → xH → Prop} {sc pg sx sy al ed : Nat} {C : Nat → Nat} {B : Nat → Nat → Nat} {p : xPv} {n : Int32} {U : Nat → Nat → Int32} {md : Int32} {N : Nat} {I : Nat → xSi} {V : Nat → Nat → Nat → Int32} {s : Int32} (hK : xCls G sc pg sx sy al ed C B p n U md N I V h) (hs : s < 0 ∨ nI N ≤ s) (hQ : Q (some .null) h) : xV G l mX5_seriesOf (d + 3) 0 0 0 0 0 [.ref sc, .int s] [] h Q := by
  refine x_iload_n dX5_seriesOf_0 rfl ?_
  refine x_if_lt (tgt := 29) dX5_seriesOf_1 (by decide) (fun hc_1 => ?_) (fun hc_1 => ?_)
  · refine x_aconst_null dX5_seriesOf_29 ?_
    exact x_aret dX5_seriesOf_30 rfl (Or.inl ⟨_, rfl⟩) (Or.inl rfl) hQ
  · refine x_iload_n dX5_seriesOf_4 rfl ?_
    refine x_aload_n dX5_seriesOf_5 rfl ?_
    refine x_get 1 dX5_seriesOf_6 hK.1 rfl (by decide) (by decide +kernel) rfl ?_
    refine x_callV (M' := mJx4a65c_size_8abf5) (mc' := 0) (ms' := 0) (As := []) dX5_seriesOf_9 gX5_seriesOf_Jx4a65c_size_8abf5 okJx4a65c_size_8abf5 rfl rfl hK.2.2.2.1 rfl (Nat.le_of_ble_eq_true rfl) (Nat.le_of_ble_eq_true rfl) (Nat.le_refl _) (Nat.le_refl _) (Nat.le_refl _) ?_
    refine kJx4a65c_size_8abf5 hK.2.2.2.1 ?_
    show xV _ _ _ _ _ _ _ _ _ _ _ _ _
    refine x_icmp_ge (tgt := 29) dX5_seriesOf_12 (by decide) (fun _ => ?_) (fun z9 => absurd (hs.resolve_left hc_1) z9)
    refine x_aconst_null dX5_seriesOf_29 ?_
    exact x_aret dX5_seriesOf_30 rfl (Or.inl ⟨_, rfl⟩) (Or.inl rfl) hQ
def LX5_latestIn (N : Nat) (I : Nat → xSi) (V : Nat → Nat → Nat → Int32) (q : Int32) : Nat → Nat → Int32 → Int32 → Int32
  | 0, j, lt, ly => lt
  | n9 + 1, j, lt, ly => (LX5_latestIn N I V q n9 (j + 1) (if (I j).2.1 < ly then lt else (if (FX4_hitsIn (V j) q) = 0 then lt else (nI j))) (if (I j).2.1 < ly then ly else (if (FX4_hitsIn (V j) q) = 0 then ly else (I j).2.1)))
def FX5_latestIn (N : Nat) (I : Nat → xSi) (V : Nat → Nat → Nat → Int32) (q : Int32) : Int32 := LX5_latestIn N I V q N 0 (-9 : Int32) (0 : Int32)
set_option maxHeartbeats 4000000 in
set_option maxRecDepth 100000 in
theorem kX5_latestIn {G : xG} {l : Launch} {d : Nat} {h : xH} {Q : Option Value → xH → Prop} {sc pg sx sy al ed : Nat} {C : Nat → Nat} {B : Nat → Nat → Nat} {p : xPv} {n : Int32} {U : Nat → Nat → Int32} {md : Int32} {N : Nat} {I : Nat → xSi} {V : Nat → Nat → Nat → Int32} {q : Int32} (hK : xCls G sc pg sx sy al ed C B p n U md N I V h)  (hQ : Q (some (.int (FX5_latestIn N I V q))) h) : xV G l mX5_latestIn (d + 3) 0 0 0 0 0 [.ref sc, .int q, xU, xU, xU, xU] [] h Q := by
  have hN31 : N < 2 ^ 31 := by have := hK.2.2.2.2.2.2; omega
  have loop : ∀ (n9 j : Nat) (lt : Int32) (ly : Int32), j + n9 = N → Q (some (.int (LX5_latestIn N I V q n9 j lt ly))) h → xV G l mX5_latestIn (d + 3) 0 0 0 0 8 [.ref sc, .int q, .int lt, .int ly, .int (nI j), xU] [] h Q := by
    intro n9
    induction n9 with
    | zero =>
      intro j lt ly hj hQ
      rw [LX5_latestIn] at hQ
      refine x_iload dX5_latestIn_8 rfl ?_
      refine x_aload_n dX5_latestIn_10 rfl ?_
      refine x_get 1 dX5_latestIn_11 hK.1 rfl (by decide) (by decide +kernel) rfl ?_
      refine x_callV (M' := mJx4a65c_size_8abf5) (mc' := 0) (ms' := 0) (As := []) dX5_latestIn_14 gX5_latestIn_Jx4a65c_size_8abf5 okJx4a65c_size_8abf5 rfl rfl hK.2.2.2.1 rfl (Nat.le_of_ble_eq_true rfl) (Nat.le_of_ble_eq_true rfl) (Nat.le_refl _) (Nat.le_refl _) (Nat.le_refl _) ?_
      refine kJx4a65c_size_8abf5 hK.2.2.2.1 ?_
      show xV _ _ _ _ _ _ _ _ _ _ _ _ _
      refine x_icmp_ge (tgt := 70) dX5_latestIn_17 (by decide) (fun _ => ?_) (fun z9 => absurd (nI_le (a := N) (b := j) (by omega) (by omega)) z9)
      refine x_iload_n dX5_latestIn_70 rfl ?_
      exact x_iret dX5_latestIn_71 rfl hQ
    | succ n9 ih =>
      intro j lt ly hj hQ
      rw [LX5_latestIn] at hQ
      refine x_iload dX5_latestIn_8 rfl ?_
      refine x_aload_n dX5_latestIn_10 rfl ?_
      refine x_get 1 dX5_latestIn_11 hK.1 rfl (by decide) (by decide +kernel) rfl ?_
      refine x_callV (M' := mJx4a65c_size_8abf5) (mc' := 0) (ms' := 0) (As := []) dX5_latestIn_14 gX5_latestIn_Jx4a65c_size_8abf5 okJx4a65c_size_8abf5 rfl rfl hK.2.2.2.1 rfl (Nat.le_of_ble_eq_true rfl) (Nat.le_of_ble_eq_true rfl) (Nat.le_refl _) (Nat.le_refl _) (Nat.le_refl _) ?_
      refine kJx4a65c_size_8abf5 hK.2.2.2.1 ?_
      show xV _ _ _ _ _ _ _ _ _ _ _ _ _
      refine x_icmp_ge (tgt := 70) dX5_latestIn_17 (by decide) (fun z9 => absurd z9 (nI_ge (a := j) (b := N) (by omega) (by omega))) (fun _ => ?_)
      have hj : j < N := by omega
      refine x_aload_n dX5_latestIn_20 rfl ?_
      refine x_get 1 dX5_latestIn_21 hK.1 rfl (by decide) (by decide +kernel) rfl ?_
      refine x_iload dX5_latestIn_24 rfl ?_
      refine x_callV (M' := mJx4a65c_get_915e3) (mc' := 0) (ms' := 0) (As := [.int (nI j)]) dX5_latestIn_26 gX5_latestIn_Jx4a65c_get_915e3 okJx4a65c_get_915e3 rfl rfl hK.2.2.2.1 rfl (Nat.le_of_ble_eq_true rfl) (Nat.le_of_ble_eq_true rfl) (Nat.le_refl _) (Nat.le_refl _) (Nat.le_refl _) ?_
      refine kJx4a65c_get_915e3 (j := j) hK.2.2.2.1 (hK.2.2.2.2.1 (by omega)) hj hK.2.2.2.2.2.2 ?_
      show xV _ _ _ _ _ _ _ _ _ _ _ _ _
      refine x_cast dX5_latestIn_29 (hK.2.2.2.2.2.1 j hj).1 rfl (by decide +kernel) ?_
      refine x_astore dX5_latestIn_32 (by decide) rfl ?_
      refine x_aload dX5_latestIn_34 rfl ?_
      refine x_get 1 dX5_latestIn_36 (hK.2.2.2.2.2.1 j hj).1 rfl (by decide) (by decide +kernel) rfl ?_
      refine x_iload_n dX5_latestIn_39 rfl ?_
      have J64 : xV G l mX5_latestIn (d + 3) 0 0 0 0 64 [.ref sc, .int q, .int (if (I j).2.1 < ly then lt else (if (FX4_hitsIn (V j) q) = 0 then lt else (nI j))), .int (if (I j).2.1 < ly then ly else (if (FX4_hitsIn (V j) q) = 0 then ly else (I j).2.1)), .int (nI j), .ref (B j 0)] [] h Q := by
        refine x_iinc (v := 1) dX5_latestIn_64 rfl (by decide) (by decide) rfl ?_
        refine x_goto (tgt := 8) dX5_latestIn_67 (by decide) ?_
        refine xV.sub (L' := [.ref sc, .int q, .int (if (I j).2.1 < ly then lt else (if (FX4_hitsIn (V j) q) = 0 then lt else (nI j))), .int (if (I j).2.1 < ly then ly else (if (FX4_hitsIn (V j) q) = 0 then ly else (I j).2.1)), .int (nI (j + 1)), xU]) ⟨Or.inr rfl, Or.inr rfl, Or.inr rfl, Or.inr rfl, Or.inr (congrArg Value.int (nI_1 j)), Or.inl rfl, trivial⟩ (ih (j + 1) (if (I j).2.1 < ly then lt else (if (FX4_hitsIn (V j) q) = 0 then lt else (nI j))) (if (I j).2.1 < ly then ly else (if (FX4_hitsIn (V j) q) = 0 then ly else (I j).2.1)) (by omega) hQ)
      refine x_icmp_lt (tgt := 64) dX5_latestIn_40 (by decide) (fun hc_40 => ?_) (fun hc_40 => ?_)
      · exact x_ls (by first | rfl | (rw [if_pos hc_40] <;> rfl) | (simp only [if_pos hc_40]; rfl) | (simp only [if_pos hc_40])) rfl J64
      · refine x_aload dX5_latestIn_43 rfl ?_
        refine x_get 10 dX5_latestIn_45 (hK.2.2.2.2.2.1 j hj).1 rfl (by decide) (by decide +kernel) rfl ?_
        refine x_iload_n dX5_latestIn_48 rfl ?_
        refine x_callV (M' := mX4_hitsIn) (mc' := 0) (ms' := 0) (As := [.int q]) dX5_latestIn_49 gX5_latestIn_X4_hitsIn okX4_hitsIn rfl rfl (hK.2.2.2.2.2.1 j hj).2.2.2.2.2.1 rfl (Nat.le_of_ble_eq_true rfl) (Nat.le_of_ble_eq_true rfl) (Nat.le_refl _) (Nat.le_refl _) (Nat.le_refl _) ?_
        refine kX4_hitsIn (hK.2.2.2.2.2.1 j hj) ?_
        show xV _ _ _ _ _ _ _ _ _ _ _ _ _
        refine x_if_eq (tgt := 64) dX5_latestIn_52 (by decide) (fun hc_52 => ?_) (fun hc_52 => ?_)
        · exact x_ls (by first | rfl | (rw [if_neg hc_40, if_pos hc_52] <;> rfl) | (simp only [if_neg hc_40, if_pos hc_52]; rfl) | (simp only [if_neg hc_40, if_pos hc_52])) rfl J64
        · refine x_iload dX5_latestIn_55 rfl ?_
          refine x_istore_n dX5_latestIn_57 (by decide) rfl ?_
          refine x_aload dX5_latestIn_58 rfl ?_
          refine x_get 1 dX5_latestIn_60 (hK.2.2.2.2.2.1 j hj).1 rfl (by decide) (by decide +kernel) rfl ?_
          refine x_istore_n dX5_latestIn_63 (by decide) rfl ?_
          exact x_ls (by first | rfl | (rw [if_neg hc_40, if_neg hc_52] <;> rfl) | (simp only [if_neg hc_40, if_neg hc_52]; rfl) | (simp only [if_neg hc_40, if_neg hc_52])) rfl J64
  refine x_bipush (v := (-9)) dX5_latestIn_0 (by decide) ?_
  refine x_istore_n dX5_latestIn_2 (by decide) rfl ?_
  refine x_iconst (v := 0) dX5_latestIn_3 (by decide) ?_
  refine x_istore_n dX5_latestIn_4 (by decide) rfl ?_
  refine x_iconst (v := 0) dX5_latestIn_5 (by decide) ?_
  refine x_istore dX5_latestIn_6 (by decide) rfl ?_
  refine xV.sub (L' := [.ref sc, .int q, .int (-9 : Int32), .int (0 : Int32), .int (nI 0), xU]) ⟨Or.inr rfl, Or.inr rfl, Or.inr rfl, Or.inr rfl, Or.inr (congrArg Value.int nI_0.symm), Or.inl rfl, trivial⟩ (loop N 0 (-9 : Int32) (0 : Int32) (by omega) hQ)
