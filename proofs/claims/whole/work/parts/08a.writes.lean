set_option maxHeartbeats 4000000 in
set_option maxRecDepth 100000 in
theorem kX2_spread {G : xG} {l : Launch} {d : Nat} {h : xH} {Q : Option Value → xH → Prop} {o : Nat} {S : xS} {k a b : Int32} (ho : h o = some (xSc S))  (hQ : Q none (xup h o (xOb 3 [.int k, .int a, .int b, .int S.2.2.2.1, .int S.2.2.2.2.1, .int S.2.2.2.2.2]))) : xV G l mX2_spread d 0 0 0 0 0 [.ref o, .int k, .int a, .int b] [] h Q := by
  refine x_aload_n dX2_spread_0 rfl ?_
  refine x_iload_n dX2_spread_1 rfl ?_
  refine x_put 0 dX2_spread_2 ho rfl (by decide) (by decide +kernel) rfl rfl rfl rfl (Nat.le_of_ble_eq_true rfl) ?_
  refine x_aload_n dX2_spread_5 rfl ?_
  refine x_iload_n dX2_spread_6 rfl ?_
  refine x_put 1 dX2_spread_7 xup_s rfl (by decide) (by decide +kernel) rfl rfl rfl rfl (Nat.le_of_ble_eq_true rfl) ?_
  refine x_heap xup_u ?_
  refine x_aload_n dX2_spread_10 rfl ?_
  refine x_iload_n dX2_spread_11 rfl ?_
  refine x_put 2 dX2_spread_12 xup_s rfl (by decide) (by decide +kernel) rfl rfl rfl rfl (Nat.le_of_ble_eq_true rfl) ?_
  refine x_heap xup_u ?_
  exact x_vret dX2_spread_15 rfl hQ
set_option maxHeartbeats 4000000 in
set_option maxRecDepth 100000 in
theorem kX2_leaveOut {G : xG} {l : Launch} {d : Nat} {h : xH} {Q : Option Value → xH → Prop} {o : Nat} {S : xS} {a b : Int32} (ho : h o = some (xSc S))  (hQ : Q none (xup h o (xOb 3 [.int (2 : Int32), .int S.2.1, .int S.2.2.1, .int a, .int b, .int S.2.2.2.2.2]))) : xV G l mX2_leaveOut d 0 0 0 0 0 [.ref o, .int a, .int b] [] h Q := by
  refine x_aload_n dX2_leaveOut_0 rfl ?_
  refine x_iconst (v := 2) dX2_leaveOut_1 (by decide) ?_
  refine x_put 0 dX2_leaveOut_2 ho rfl (by decide) (by decide +kernel) rfl rfl rfl rfl (Nat.le_of_ble_eq_true rfl) ?_
  refine x_aload_n dX2_leaveOut_5 rfl ?_
  refine x_iload_n dX2_leaveOut_6 rfl ?_
  refine x_put 3 dX2_leaveOut_7 xup_s rfl (by decide) (by decide +kernel) rfl rfl rfl rfl (Nat.le_of_ble_eq_true rfl) ?_
  refine x_heap xup_u ?_
  refine x_aload_n dX2_leaveOut_10 rfl ?_
  refine x_iload_n dX2_leaveOut_11 rfl ?_
  refine x_put 4 dX2_leaveOut_12 xup_s rfl (by decide) (by decide +kernel) rfl rfl rfl rfl (Nat.le_of_ble_eq_true rfl) ?_
  refine x_heap xup_u ?_
  exact x_vret dX2_leaveOut_15 rfl hQ
set_option maxHeartbeats 4000000 in
set_option maxRecDepth 100000 in
theorem kX1_resize {G : xG} {l : Launch} {d : Nat} {h : xH} {Q : Option Value → xH → Prop} {pg sx sy : Nat} {p : xPv} {a b : Int32} (hP : xPg pg sx sy p h) (hn1 : pg ≠ sx) (hn2 : pg ≠ sy) (hn3 : sx ≠ sy)  (hQ : Q none (xup (xup (xup h pg (xOb 2 [.int a, .int b, .ref sx, .ref sy])) sx (xOb 3 [.int p.2.2.1.1, .int p.2.2.1.2.1, .int p.2.2.1.2.2.1, .int p.2.2.1.2.2.2.1, .int p.2.2.1.2.2.2.2.1, .int ((2 : Int32) * a)])) sy (xOb 3 [.int p.2.2.2.1, .int p.2.2.2.2.1, .int p.2.2.2.2.2.1, .int p.2.2.2.2.2.2.1, .int p.2.2.2.2.2.2.2.1, .int ((4 : Int32) * b)]))) : xV G l mX1_resize d 0 0 0 0 0 [.ref pg, .int a, .int b] [] h Q := by
  refine x_aload_n dX1_resize_0 rfl ?_
  refine x_iload_n dX1_resize_1 rfl ?_
  refine x_put 0 dX1_resize_2 hP.1 rfl (by decide) (by decide +kernel) rfl rfl rfl rfl (Nat.le_of_ble_eq_true rfl) ?_
  refine x_aload_n dX1_resize_5 rfl ?_
  refine x_iload_n dX1_resize_6 rfl ?_
  refine x_put 1 dX1_resize_7 xup_s rfl (by decide) (by decide +kernel) rfl rfl rfl rfl (Nat.le_of_ble_eq_true rfl) ?_
  refine x_heap xup_u ?_
  refine x_aload_n dX1_resize_10 rfl ?_
  refine x_get 2 dX1_resize_11 xup_s rfl (by decide) (by decide +kernel) rfl ?_
  refine x_iconst (v := 2) dX1_resize_14 (by decide) ?_
  refine x_iload_n dX1_resize_15 rfl ?_
  refine x_imul dX1_resize_16 ?_
  refine x_put 5 dX1_resize_17 (xup_k hn1.symm hP.2.1) rfl (by decide) (by decide +kernel) rfl rfl rfl rfl (Nat.le_of_ble_eq_true rfl) ?_
  refine x_aload_n dX1_resize_20 rfl ?_
  refine x_get 3 dX1_resize_21 (xup_k hn1 xup_s) rfl (by decide) (by decide +kernel) rfl ?_
  refine x_iconst (v := 4) dX1_resize_24 (by decide) ?_
  refine x_iload_n dX1_resize_25 rfl ?_
  refine x_imul dX1_resize_26 ?_
  refine x_put 5 dX1_resize_27 (xup_k hn3.symm (xup_k hn2.symm hP.2.2)) rfl (by decide) (by decide +kernel) rfl rfl rfl rfl (Nat.le_of_ble_eq_true rfl) ?_
  exact x_vret dX1_resize_30 rfl hQ
set_option maxHeartbeats 4000000 in
set_option maxRecDepth 100000 in
theorem kX3_restyle {G : xG} {l : Launch} {d : Nat} {h : xH} {Q : Option Value → xH → Prop} {pg : Nat} {B : Nat → Nat} {I : xSi} {V : Nat → Nat → Int32} {w v : Int32} (hS : xSer G B pg I V h)  (hQ : (if w = 0 then Q (some (.int I.1)) (xup h (B 0) (xOb 4 [.int v, .int I.2.1, .int I.2.2.1, .int I.2.2.2.1, .int (1 : Int32), .ref (B 1), .ref (B 2), .ref (B 3), .ref (B 4), .ref pg, .ref (B 5)])) else (if w = 1 then Q (some (.int I.2.1)) (xup h (B 0) (xOb 4 [.int I.1, .int v, .int I.2.2.1, .int I.2.2.2.1, .int I.2.2.2.2, .ref (B 1), .ref (B 2), .ref (B 3), .ref (B 4), .ref pg, .ref (B 5)])) else (if w = 2 then Q (some (.int I.2.2.1)) (xup h (B 0) (xOb 4 [.int I.1, .int I.2.1, .int v, .int I.2.2.2.1, .int I.2.2.2.2, .ref (B 1), .ref (B 2), .ref (B 3), .ref (B 4), .ref pg, .ref (B 5)])) else Q (some (.int (-1 : Int32))) h)))) : xV G l mX3_restyle d 0 0 0 0 0 [.ref (B 0), .int w, .int v, xU] [] h Q := by
  refine x_iload_n dX3_restyle_0 rfl ?_
  by_cases hs_1_0 : w = 0
  · refine x_tcase hs_1_0 (tgt := 28) (off := 27) dX3_restyle_1 (by decide) (by decide) (by decide) (by decide) ?_
    refine x_aload_n dX3_restyle_28 rfl ?_
    refine x_get 0 dX3_restyle_29 hS.1 rfl (by decide) (by decide +kernel) rfl ?_
    refine x_istore_n dX3_restyle_32 (by decide) rfl ?_
    refine x_aload_n dX3_restyle_33 rfl ?_
    refine x_iload_n dX3_restyle_34 rfl ?_
    refine x_put 0 dX3_restyle_35 hS.1 rfl (by decide) (by decide +kernel) rfl rfl rfl rfl (Nat.le_of_ble_eq_true rfl) ?_
    refine x_aload_n dX3_restyle_38 rfl ?_
    refine x_iconst (v := 1) dX3_restyle_39 (by decide) ?_
    refine x_put 4 dX3_restyle_40 xup_s rfl (by decide) (by decide +kernel) rfl rfl rfl rfl (Nat.le_of_ble_eq_true rfl) ?_
    refine x_heap xup_u ?_
    refine x_iload_n dX3_restyle_43 rfl ?_
    exact x_iret dX3_restyle_44 rfl (by rw [if_pos hs_1_0] at hQ; exact hQ)
  by_cases hs_1_1 : w = 1
  · refine x_tcase hs_1_1 (tgt := 45) (off := 44) dX3_restyle_1 (by decide) (by decide) (by decide) (by decide) ?_
    refine x_aload_n dX3_restyle_45 rfl ?_
    refine x_get 1 dX3_restyle_46 hS.1 rfl (by decide) (by decide +kernel) rfl ?_
    refine x_istore_n dX3_restyle_49 (by decide) rfl ?_
    refine x_aload_n dX3_restyle_50 rfl ?_
    refine x_iload_n dX3_restyle_51 rfl ?_
    refine x_put 1 dX3_restyle_52 hS.1 rfl (by decide) (by decide +kernel) rfl rfl rfl rfl (Nat.le_of_ble_eq_true rfl) ?_
    refine x_iload_n dX3_restyle_55 rfl ?_
    exact x_iret dX3_restyle_56 rfl (by rw [if_neg hs_1_0, if_pos hs_1_1] at hQ; exact hQ)
  by_cases hs_1_2 : w = 2
  · refine x_tcase hs_1_2 (tgt := 57) (off := 56) dX3_restyle_1 (by decide) (by decide) (by decide) (by decide) ?_
    refine x_aload_n dX3_restyle_57 rfl ?_
    refine x_get 2 dX3_restyle_58 hS.1 rfl (by decide) (by decide +kernel) rfl ?_
    refine x_istore_n dX3_restyle_61 (by decide) rfl ?_
    refine x_aload_n dX3_restyle_62 rfl ?_
    refine x_iload_n dX3_restyle_63 rfl ?_
    refine x_put 2 dX3_restyle_64 hS.1 rfl (by decide) (by decide +kernel) rfl rfl rfl rfl (Nat.le_of_ble_eq_true rfl) ?_
    refine x_iload_n dX3_restyle_67 rfl ?_
    exact x_iret dX3_restyle_68 rfl (by rw [if_neg hs_1_0, if_neg hs_1_1, if_pos hs_1_2] at hQ; exact hQ)
  have z_1_0 : Int32.toInt (w) ≠ 0 := fun q => hs_1_0 (Int32.toInt_inj.mp (by rw [q]; rfl))
  have z_1_1 : Int32.toInt (w) ≠ 1 := fun q => hs_1_1 (Int32.toInt_inj.mp (by rw [q]; rfl))
  have z_1_2 : Int32.toInt (w) ≠ 2 := fun q => hs_1_2 (Int32.toInt_inj.mp (by rw [q]; rfl))
  refine x_tout (tgt := 69) dX3_restyle_1 (by omega) (by decide) ?_
  refine x_iconst (v := (-1)) dX3_restyle_69 (by decide) ?_
  exact x_iret dX3_restyle_70 rfl (by rw [if_neg hs_1_0, if_neg hs_1_1, if_neg hs_1_2] at hQ; exact hQ)
set_option maxHeartbeats 4000000 in
set_option maxRecDepth 100000 in
theorem kX3_removeLatest {G : xG} {l : Launch} {d : Nat} {h : xH} {Q : Option Value → xH → Prop} {pg : Nat} {B : Nat → Nat} {I : xSi} {V : Nat → Nat → Int32} (hS : xSer G B pg I V h)  (hQ : Q none (xup h (B 0) (xOb 4 [.int I.1, .int I.2.1, .int I.2.2.1, .int (if (0 : Int32) < (I.2.2.2.1 - (1 : Int32)) then (I.2.2.2.1 - (1 : Int32)) else (0 : Int32)), .int (1 : Int32), .ref (B 1), .ref (B 2), .ref (B 3), .ref (B 4), .ref pg, .ref (B 5)]))) : xV G l mX3_removeLatest (d + 1) 0 0 0 0 0 [.ref (B 0)] [] h Q := by
  refine x_aload_n dX3_removeLatest_0 rfl ?_
  refine x_iconst (v := 0) dX3_removeLatest_1 (by decide) ?_
  refine x_aload_n dX3_removeLatest_2 rfl ?_
  refine x_get 3 dX3_removeLatest_3 hS.1 rfl (by decide) (by decide +kernel) rfl ?_
  refine x_iconst (v := 1) dX3_removeLatest_6 (by decide) ?_
  refine x_isub dX3_removeLatest_7 ?_
  refine x_mmax dX3_removeLatest_8 (by decide +kernel) (by decide +kernel) (by decide +kernel) (by decide +kernel) (Nat.le_of_ble_eq_true rfl) (by omega) (Nat.le_refl _) (Nat.le_refl _) ?_
  refine x_put 3 dX3_removeLatest_11 hS.1 rfl (by decide) (by decide +kernel) rfl rfl rfl rfl (Nat.le_of_ble_eq_true rfl) ?_
  refine x_aload_n dX3_removeLatest_14 rfl ?_
  refine x_iconst (v := 1) dX3_removeLatest_15 (by decide) ?_
  refine x_put 4 dX3_removeLatest_16 xup_s rfl (by decide) (by decide +kernel) rfl rfl rfl rfl (Nat.le_of_ble_eq_true rfl) ?_
  refine x_heap xup_u ?_
  exact x_vret dX3_removeLatest_19 rfl hQ
theorem xsz_in {s : Int32} (h0 : 0 ≤ s) (h1 : s < 24) : vp_in s 24 := by
  rw [vp_in_iff]
  rw [Int32.le_iff_toInt_le] at h0
  rw [Int32.lt_iff_toInt_lt] at h1
  have e0 : (0 : Int32).toInt = 0 := rfl
  have e24 : (24 : Int32).toInt = 24 := rfl
  omega
set_option maxHeartbeats 4000000 in
set_option maxRecDepth 100000 in
theorem kX3_add {G : xG} {l : Launch} {d : Nat} {h : xH} {Q : Option Value → xH → Prop} {pg : Nat} {B : Nat → Nat} {I : xSi} {V : Nat → Nat → Int32} {g a b q : Int32} (hS : xSer G B pg I V h) (hB : ∀ {i j : Nat}, i ≠ j → B i ≠ B j) (h0 : 0 ≤ I.2.2.2.1) (hg : g = 0 ∨ g = 1)  (hQ : (if I.2.2.2.1 < (24 : Int32) then Q (some (.int ((I.2.2.2.1 + (1 : Int32)) - (1 : Int32)))) (xup (xup (xup (xup (xup h (B 4) (xRz G 24 (upd (V 4) (Int32.toNatClampNeg I.2.2.2.1) g))) (B 1) (xRi G 24 (upd (V 1) (Int32.toNatClampNeg I.2.2.2.1) a))) (B 2) (xRi G 24 (upd (V 2) (Int32.toNatClampNeg I.2.2.2.1) b))) (B 3) (xRi G 24 (upd (V 3) (Int32.toNatClampNeg I.2.2.2.1) q))) (B 0) (xOb 4 [.int I.1, .int I.2.1, .int I.2.2.1, .int (I.2.2.2.1 + (1 : Int32)), .int (1 : Int32), .ref (B 1), .ref (B 2), .ref (B 3), .ref (B 4), .ref pg, .ref (B 5)])) else Q (some (.int (-3 : Int32))) h)) : xV G l mX3_add d 0 0 0 0 0 [.ref (B 0), .int g, .int a, .int b, .int q] [] h Q := by
  refine x_aload_n dX3_add_0 rfl ?_
  refine x_get 3 dX3_add_1 hS.1 rfl (by decide) (by decide +kernel) rfl ?_
  refine x_bipush (v := 24) dX3_add_4 (by decide) ?_
  refine x_icmp_lt (tgt := 12) dX3_add_6 (by decide) (fun hc_6 => ?_) (fun hc_6 => ?_)
  · refine x_aload_n dX3_add_12 rfl ?_
    refine x_get 8 dX3_add_13 hS.1 rfl (by decide) (by decide +kernel) rfl ?_
    refine x_aload_n dX3_add_16 rfl ?_
    refine x_get 3 dX3_add_17 hS.1 rfl (by decide) (by decide +kernel) rfl ?_
    refine x_iload_n dX3_add_20 rfl ?_
    refine x_zast dX3_add_21 hS.2.2.2.2.1 (xsz_in h0 hc_6) (nbz hg) ?_
    refine x_aload_n dX3_add_22 rfl ?_
    refine x_get 5 dX3_add_23 (xup_k (hB (by decide)) hS.1) rfl (by decide) (by decide +kernel) rfl ?_
    refine x_aload_n dX3_add_26 rfl ?_
    refine x_get 3 dX3_add_27 (xup_k (hB (by decide)) hS.1) rfl (by decide) (by decide +kernel) rfl ?_
    refine x_iload_n dX3_add_30 rfl ?_
    refine x_iast dX3_add_31 (xup_k (hB (by decide)) hS.2.1) (xsz_in h0 hc_6) ?_
    refine x_aload_n dX3_add_32 rfl ?_
    refine x_get 6 dX3_add_33 (xup_k (hB (by decide)) (xup_k (hB (by decide)) hS.1)) rfl (by decide) (by decide +kernel) rfl ?_
    refine x_aload_n dX3_add_36 rfl ?_
    refine x_get 3 dX3_add_37 (xup_k (hB (by decide)) (xup_k (hB (by decide)) hS.1)) rfl (by decide) (by decide +kernel) rfl ?_
    refine x_iload_n dX3_add_40 rfl ?_
    refine x_iast dX3_add_41 (xup_k (hB (by decide)) (xup_k (hB (by decide)) hS.2.2.1)) (xsz_in h0 hc_6) ?_
    refine x_aload_n dX3_add_42 rfl ?_
    refine x_get 7 dX3_add_43 (xup_k (hB (by decide)) (xup_k (hB (by decide)) (xup_k (hB (by decide)) hS.1))) rfl (by decide) (by decide +kernel) rfl ?_
    refine x_aload_n dX3_add_46 rfl ?_
    refine x_get 3 dX3_add_47 (xup_k (hB (by decide)) (xup_k (hB (by decide)) (xup_k (hB (by decide)) hS.1))) rfl (by decide) (by decide +kernel) rfl ?_
    refine x_iload dX3_add_50 rfl ?_
    refine x_iast dX3_add_52 (xup_k (hB (by decide)) (xup_k (hB (by decide)) (xup_k (hB (by decide)) hS.2.2.2.1))) (xsz_in h0 hc_6) ?_
    refine x_aload_n dX3_add_53 rfl ?_
    refine x_dup dX3_add_54 rfl ?_
    refine x_get 3 dX3_add_55 (xup_k (hB (by decide)) (xup_k (hB (by decide)) (xup_k (hB (by decide)) (xup_k (hB (by decide)) hS.1)))) rfl (by decide) (by decide +kernel) rfl ?_
    refine x_iconst (v := 1) dX3_add_58 (by decide) ?_
    refine x_iadd dX3_add_59 ?_
    refine x_put 3 dX3_add_60 (xup_k (hB (by decide)) (xup_k (hB (by decide)) (xup_k (hB (by decide)) (xup_k (hB (by decide)) hS.1)))) rfl (by decide) (by decide +kernel) rfl rfl rfl rfl (Nat.le_of_ble_eq_true rfl) ?_
    refine x_aload_n dX3_add_63 rfl ?_
    refine x_iconst (v := 1) dX3_add_64 (by decide) ?_
    refine x_put 4 dX3_add_65 xup_s rfl (by decide) (by decide +kernel) rfl rfl rfl rfl (Nat.le_of_ble_eq_true rfl) ?_
    refine x_heap xup_u ?_
    refine x_aload_n dX3_add_68 rfl ?_
    refine x_get 3 dX3_add_69 xup_s rfl (by decide) (by decide +kernel) rfl ?_
    refine x_iconst (v := 1) dX3_add_72 (by decide) ?_
    refine x_isub dX3_add_73 ?_
    exact x_iret dX3_add_74 rfl (by rw [if_pos hc_6] at hQ; exact hQ)
  · refine x_bipush (v := (-3)) dX3_add_9 (by decide) ?_
    exact x_iret dX3_add_11 rfl (by rw [if_neg hc_6] at hQ; exact hQ)
theorem xcell_in2 {c : Int32} (h1 : ¬ c < 0) (h2 : c < 640) : vp_in c 640 := by
  rw [vp_in_iff]
  rw [Int32.lt_iff_toInt_lt] at h1 h2
  have e0 : (0 : Int32).toInt = 0 := rfl
  have e24 : (640 : Int32).toInt = 640 := rfl
  omega
set_option maxHeartbeats 4000000 in
set_option maxRecDepth 100000 in
theorem kX4_touch {G : xG} {l : Launch} {d : Nat} {h : xH} {Q : Option Value → xH → Prop} {pg : Nat} {B : Nat → Nat} {I : xSi} {V : Nat → Nat → Int32} {q t : Int32} (hS : xSer G B pg I V h)  (hQ : (if q < 0 then Q (some (.int (0 : Int32))) h else (if q < (640 : Int32) then Q (some (.int (1 : Int32))) (xup h (B 7) (xRi G 640 (upd (V 7) (Int32.toNatClampNeg q) (((V 7) (Int32.toNatClampNeg q)) ||| ((1 : Int32) <<< (t &&& 31)))))) else Q (some (.int (0 : Int32))) h))) : xV G l mX4_touch d 0 0 0 0 0 [.ref (B 5), .int q, .int t] [] h Q := by
  refine x_iload_n dX4_touch_0 rfl ?_
  refine x_if_lt (tgt := 13) dX4_touch_1 (by decide) (fun hc_1 => ?_) (fun hc_1 => ?_)
  · refine x_iconst (v := 0) dX4_touch_13 (by decide) ?_
    exact x_zret dX4_touch_14 rfl rfl (by rw [if_pos hc_1] at hQ; exact hQ)
  · refine x_iload_n dX4_touch_4 rfl ?_
    refine x_aload_n dX4_touch_5 rfl ?_
    refine x_get 2 dX4_touch_6 hS.2.2.2.2.2.1 rfl (by decide) (by decide +kernel) rfl ?_
    refine x_alenI (v := 640) dX4_touch_9 hS.2.2.2.2.2.2.2 (by decide) ?_
    refine x_icmp_lt (tgt := 15) dX4_touch_10 (by decide) (fun hc_10 => ?_) (fun hc_10 => ?_)
    · refine x_aload_n dX4_touch_15 rfl ?_
      refine x_get 2 dX4_touch_16 hS.2.2.2.2.2.1 rfl (by decide) (by decide +kernel) rfl ?_
      refine x_iload_n dX4_touch_19 rfl ?_
      refine x_dup2 dX4_touch_20 rfl rfl ?_
      refine x_iald dX4_touch_21 hS.2.2.2.2.2.2.2 (xcell_in2 hc_1 hc_10) ?_
      refine x_iconst (v := 1) dX4_touch_22 (by decide) ?_
      refine x_iload_n dX4_touch_23 rfl ?_
      refine x_ishl dX4_touch_24 ?_
      refine x_ior dX4_touch_25 ?_
      refine x_iast dX4_touch_26 hS.2.2.2.2.2.2.2 (xcell_in2 hc_1 hc_10) ?_
      refine x_iconst (v := 1) dX4_touch_27 (by decide) ?_
      exact x_zret dX4_touch_28 rfl rfl (by rw [if_neg hc_1, if_pos hc_10] at hQ; exact hQ)
    · refine x_iconst (v := 0) dX4_touch_13 (by decide) ?_
      exact x_zret dX4_touch_14 rfl rfl (by rw [if_neg hc_1, if_neg hc_10] at hQ; exact hQ)
abbrev xLo (C : Nat → Nat) (n : Int32) : va_E := xOb 1 [.int n, .ref (C 1), .ref (C 2), .ref (C 3), .ref (C 4), .ref (C 5)]
def xLab (G : xG) (C : Nat → Nat) (n : Int32) (V : Nat → Nat → Int32) (h : xH) : Prop := h (C 0) = some (xLo C n) ∧ h (C 1) = some (xRi G 20 (V 1)) ∧ h (C 2) = some (xRi G 20 (V 2)) ∧ h (C 3) = some (xRi G 20 (V 3)) ∧ h (C 4) = some (xRi G 20 (V 4)) ∧ h (C 5) = some (xRi G 20 (V 5))
theorem xlb_in {s : Int32} (h0 : 0 ≤ s) (h1 : s < 20) : vp_in s 20 := by
  rw [vp_in_iff]
  rw [Int32.le_iff_toInt_le] at h0
  rw [Int32.lt_iff_toInt_lt] at h1
  have e0 : (0 : Int32).toInt = 0 := rfl
  have e24 : (20 : Int32).toInt = 20 := rfl
  omega
set_option maxHeartbeats 4000000 in
set_option maxRecDepth 100000 in
theorem kX0_add {G : xG} {l : Launch} {d : Nat} {h : xH} {Q : Option Value → xH → Prop} {C : Nat → Nat} {n : Int32} {V : Nat → Nat → Int32} {a b c9 e f : Int32} (hL : xLab G C n V h) (hC : ∀ {i j : Nat}, i ≠ j → C i ≠ C j) (h0 : 0 ≤ n)  (hQ : (if n < (20 : Int32) then Q none (xup (xup (xup (xup (xup (xup h (C 1) (xRi G 20 (upd (V 1) (Int32.toNatClampNeg n) a))) (C 2) (xRi G 20 (upd (V 2) (Int32.toNatClampNeg n) b))) (C 3) (xRi G 20 (upd (V 3) (Int32.toNatClampNeg n) c9))) (C 4) (xRi G 20 (upd (V 4) (Int32.toNatClampNeg n) e))) (C 5) (xRi G 20 (upd (V 5) (Int32.toNatClampNeg n) f))) (C 0) (xOb 1 [.int (n + (1 : Int32)), .ref (C 1), .ref (C 2), .ref (C 3), .ref (C 4), .ref (C 5)])) else Q none h)) : xV G l mX0_add d 0 0 0 0 0 [.ref (C 0), .int a, .int b, .int c9, .int e, .int f] [] h Q := by
  refine x_aload_n dX0_add_0 rfl ?_
  refine x_get 0 dX0_add_1 hL.1 rfl (by decide) (by decide +kernel) rfl ?_
  refine x_bipush (v := 20) dX0_add_4 (by decide) ?_
  refine x_icmp_lt (tgt := 10) dX0_add_6 (by decide) (fun hc_6 => ?_) (fun hc_6 => ?_)
  · refine x_aload_n dX0_add_10 rfl ?_
    refine x_get 1 dX0_add_11 hL.1 rfl (by decide) (by decide +kernel) rfl ?_
    refine x_aload_n dX0_add_14 rfl ?_
    refine x_get 0 dX0_add_15 hL.1 rfl (by decide) (by decide +kernel) rfl ?_
    refine x_iload_n dX0_add_18 rfl ?_
    refine x_iast dX0_add_19 hL.2.1 (xlb_in h0 hc_6) ?_
    refine x_aload_n dX0_add_20 rfl ?_
    refine x_get 2 dX0_add_21 (xup_k (hC (by decide)) hL.1) rfl (by decide) (by decide +kernel) rfl ?_
    refine x_aload_n dX0_add_24 rfl ?_
    refine x_get 0 dX0_add_25 (xup_k (hC (by decide)) hL.1) rfl (by decide) (by decide +kernel) rfl ?_
    refine x_iload_n dX0_add_28 rfl ?_
    refine x_iast dX0_add_29 (xup_k (hC (by decide)) hL.2.2.1) (xlb_in h0 hc_6) ?_
    refine x_aload_n dX0_add_30 rfl ?_
    refine x_get 3 dX0_add_31 (xup_k (hC (by decide)) (xup_k (hC (by decide)) hL.1)) rfl (by decide) (by decide +kernel) rfl ?_
    refine x_aload_n dX0_add_34 rfl ?_
    refine x_get 0 dX0_add_35 (xup_k (hC (by decide)) (xup_k (hC (by decide)) hL.1)) rfl (by decide) (by decide +kernel) rfl ?_
    refine x_iload_n dX0_add_38 rfl ?_
    refine x_iast dX0_add_39 (xup_k (hC (by decide)) (xup_k (hC (by decide)) hL.2.2.2.1)) (xlb_in h0 hc_6) ?_
    refine x_aload_n dX0_add_40 rfl ?_
    refine x_get 4 dX0_add_41 (xup_k (hC (by decide)) (xup_k (hC (by decide)) (xup_k (hC (by decide)) hL.1))) rfl (by decide) (by decide +kernel) rfl ?_
    refine x_aload_n dX0_add_44 rfl ?_
    refine x_get 0 dX0_add_45 (xup_k (hC (by decide)) (xup_k (hC (by decide)) (xup_k (hC (by decide)) hL.1))) rfl (by decide) (by decide +kernel) rfl ?_
    refine x_iload dX0_add_48 rfl ?_
    refine x_iast dX0_add_50 (xup_k (hC (by decide)) (xup_k (hC (by decide)) (xup_k (hC (by decide)) hL.2.2.2.2.1))) (xlb_in h0 hc_6) ?_
    refine x_aload_n dX0_add_51 rfl ?_
    refine x_get 5 dX0_add_52 (xup_k (hC (by decide)) (xup_k (hC (by decide)) (xup_k (hC (by decide)) (xup_k (hC (by decide)) hL.1)))) rfl (by decide) (by decide +kernel) rfl ?_
    refine x_aload_n dX0_add_55 rfl ?_
    refine x_get 0 dX0_add_56 (xup_k (hC (by decide)) (xup_k (hC (by decide)) (xup_k (hC (by decide)) (xup_k (hC (by decide)) hL.1)))) rfl (by decide) (by decide +kernel) rfl ?_
    refine x_iload dX0_add_59 rfl ?_
    refine x_iast dX0_add_61 (xup_k (hC (by decide)) (xup_k (hC (by decide)) (xup_k (hC (by decide)) (xup_k (hC (by decide)) hL.2.2.2.2.2)))) (xlb_in h0 hc_6) ?_
    refine x_aload_n dX0_add_62 rfl ?_
    refine x_dup dX0_add_63 rfl ?_
    refine x_get 0 dX0_add_64 (xup_k (hC (by decide)) (xup_k (hC (by decide)) (xup_k (hC (by decide)) (xup_k (hC (by decide)) (xup_k (hC (by decide)) hL.1))))) rfl (by decide) (by decide +kernel) rfl ?_
    refine x_iconst (v := 1) dX0_add_67 (by decide) ?_
    refine x_iadd dX0_add_68 ?_
    refine x_put 0 dX0_add_69 (xup_k (hC (by decide)) (xup_k (hC (by decide)) (xup_k (hC (by decide)) (xup_k (hC (by decide)) (xup_k (hC (by decide)) hL.1))))) rfl (by decide) (by decide +kernel) rfl rfl rfl rfl (Nat.le_of_ble_eq_true rfl) ?_
    exact x_vret dX0_add_72 rfl (by rw [if_pos hc_6] at hQ; exact hQ)
  · exact x_vret dX0_add_9 rfl (by rw [if_neg hc_6] at hQ; exact hQ)
