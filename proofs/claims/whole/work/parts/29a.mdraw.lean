set_option maxHeartbeats 4000000 in
set_option maxRecDepth 100000 in
theorem kX6_dot {G : xG} {l : Launch} {d : Nat} {h : xH} {Q : Option Value → xH → Prop} {A : Nat → Nat} {I : xMi} {V : Nat → Nat → Int32} {s q x y : Int32} (hM : xMod G A I V h) (hA : ∀ {i j : Nat}, i ≠ j → A i ≠ A j) (hq : vp_in ((640 * s) + FX6_cellOf I V x y) 3840) (hQ : (∀ h', xMod G A I (va_up (va_up V 23 (upd (V 23) (Int32.toNatClampNeg (((640 : Int32) * s) + (FX6_cellOf I V x y))) ((if (10240 : Int32) ≤ ((V 23) (Int32.toNatClampNeg (((640 : Int32) * s) + (FX6_cellOf I V x y)))) then ((V 23) (Int32.toNatClampNeg (((640 : Int32) * s) + (FX6_cellOf I V x y)))) else (10240 : Int32)) ||| (if ((3 : Int32) - (y - y / (4 : Int32) * (4 : Int32))) = (3 : Int32) then ((64 : Int32) <<< ((x - x / (2 : Int32) * (2 : Int32)) &&& 31)) else ((1 : Int32) <<< ((((3 : Int32) - (y - y / (4 : Int32) * (4 : Int32))) + ((3 : Int32) * (x - x / (2 : Int32) * (2 : Int32)))) &&& 31)))))) 24 (upd (V 24) (Int32.toNatClampNeg (((640 : Int32) * s) + (FX6_cellOf I V x y))) (((V 24) (Int32.toNatClampNeg (((640 : Int32) * s) + (FX6_cellOf I V x y)))) ||| ((1 : Int32) <<< (q &&& 31))))) h' → xfM A h h' → Q (none) h')) : xV G l mX6_dot (d + 1) 0 0 0 0 0 [.ref (A 0), .int s, .int q, .int x, .int y, xU, xU, xU] [] h Q := by
  refine x_sipush (v := 640) dX6_dot_0 (by decide) ?_
  refine x_iload_n dX6_dot_3 rfl ?_
  refine x_imul dX6_dot_4 ?_
  refine x_aload_n dX6_dot_5 rfl ?_
  refine x_iload_n dX6_dot_6 rfl ?_
  refine x_iload dX6_dot_7 rfl ?_
  refine x_callV (M' := mX6_cellOf) (mc' := 0) (ms' := 0) (As := [.int x, .int y]) dX6_dot_9 gX6_dot_X6_cellOf okX6_cellOf rfl rfl hM.1 rfl (Nat.le_of_ble_eq_true rfl) (Nat.le_of_ble_eq_true rfl) (Nat.le_refl _) (Nat.le_refl _) (Nat.le_refl _) ?_
  refine kX6_cellOf hM  ?_
  show xV _ _ _ _ _ _ _ _ _ _ _ _ _
  refine x_iadd dX6_dot_12 ?_
  refine x_istore dX6_dot_13 (by decide) rfl ?_
  refine x_iconst (v := 3) dX6_dot_15 (by decide) ?_
  refine x_iload dX6_dot_16 rfl ?_
  refine x_iconst (v := 4) dX6_dot_18 (by decide) ?_
  refine x_irem dX6_dot_19 (by decide) ?_
  refine x_isub dX6_dot_20 ?_
  refine x_istore dX6_dot_21 (by decide) rfl ?_
  refine x_iload dX6_dot_23 rfl ?_
  refine x_iconst (v := 3) dX6_dot_25 (by decide) ?_
  have J48 : xV G l mX6_dot (d + 1) 0 0 0 0 48 [.ref (A 0), .int s, .int q, .int x, .int y, .int (((640 : Int32) * s) + (FX6_cellOf I V x y)), .int ((3 : Int32) - (y - y / (4 : Int32) * (4 : Int32))), xU] [.int (if ((3 : Int32) - (y - y / (4 : Int32) * (4 : Int32))) = (3 : Int32) then ((64 : Int32) <<< ((x - x / (2 : Int32) * (2 : Int32)) &&& 31)) else ((1 : Int32) <<< ((((3 : Int32) - (y - y / (4 : Int32) * (4 : Int32))) + ((3 : Int32) * (x - x / (2 : Int32) * (2 : Int32)))) &&& 31)))] h Q := by
    refine x_istore dX6_dot_48 (by decide) rfl ?_
    refine x_aload_n dX6_dot_50 rfl ?_
    refine x_get 23 dX6_dot_51 hM.1 rfl (by decide) (by decide +kernel) rfl ?_
    refine x_iload dX6_dot_54 rfl ?_
    refine x_aload_n dX6_dot_56 rfl ?_
    refine x_get 23 dX6_dot_57 hM.1 rfl (by decide) (by decide +kernel) rfl ?_
    refine x_iload dX6_dot_60 rfl ?_
    refine x_iald dX6_dot_62 (hM.r 23 (by decide) (by decide)) hq ?_
    refine x_sipush (v := 10240) dX6_dot_63 (by decide) ?_
    have J82 : xV G l mX6_dot (d + 1) 0 0 0 0 82 [.ref (A 0), .int s, .int q, .int x, .int y, .int (((640 : Int32) * s) + (FX6_cellOf I V x y)), .int ((3 : Int32) - (y - y / (4 : Int32) * (4 : Int32))), .int (if ((3 : Int32) - (y - y / (4 : Int32) * (4 : Int32))) = (3 : Int32) then ((64 : Int32) <<< ((x - x / (2 : Int32) * (2 : Int32)) &&& 31)) else ((1 : Int32) <<< ((((3 : Int32) - (y - y / (4 : Int32) * (4 : Int32))) + ((3 : Int32) * (x - x / (2 : Int32) * (2 : Int32)))) &&& 31)))] [.int (if (10240 : Int32) ≤ ((V 23) (Int32.toNatClampNeg (((640 : Int32) * s) + (FX6_cellOf I V x y)))) then ((V 23) (Int32.toNatClampNeg (((640 : Int32) * s) + (FX6_cellOf I V x y)))) else (10240 : Int32)), .int (((640 : Int32) * s) + (FX6_cellOf I V x y)), .ref (A 23)] h Q := by
      refine x_iload dX6_dot_82 rfl ?_
      refine x_ior dX6_dot_84 ?_
      refine x_iast dX6_dot_85 (hM.r 23 (by decide) (by decide)) hq ?_
      refine x_aload_n dX6_dot_86 rfl ?_
      refine x_get 24 dX6_dot_87 (xup_k (hA (by decide)) hM.1) rfl (by decide) (by decide +kernel) rfl ?_
      refine x_iload dX6_dot_90 rfl ?_
      refine x_dup2 dX6_dot_92 rfl rfl ?_
      refine x_iald dX6_dot_93 (xup_k (hA (by decide)) (hM.r 24 (by decide) (by decide))) hq ?_
      refine x_iconst (v := 1) dX6_dot_94 (by decide) ?_
      refine x_iload_n dX6_dot_95 rfl ?_
      refine x_ishl dX6_dot_96 ?_
      refine x_ior dX6_dot_97 ?_
      refine x_iast dX6_dot_98 (xup_k (hA (by decide)) (hM.r 24 (by decide) (by decide))) hq ?_
      exact x_vret dX6_dot_99 rfl (hQ _ ((hM.w hA 23 (by decide) (upd (V 23) (Int32.toNatClampNeg (((640 : Int32) * s) + (FX6_cellOf I V x y))) ((if (10240 : Int32) ≤ ((V 23) (Int32.toNatClampNeg (((640 : Int32) * s) + (FX6_cellOf I V x y)))) then ((V 23) (Int32.toNatClampNeg (((640 : Int32) * s) + (FX6_cellOf I V x y)))) else (10240 : Int32)) ||| (if ((3 : Int32) - (y - y / (4 : Int32) * (4 : Int32))) = (3 : Int32) then ((64 : Int32) <<< ((x - x / (2 : Int32) * (2 : Int32)) &&& 31)) else ((1 : Int32) <<< ((((3 : Int32) - (y - y / (4 : Int32) * (4 : Int32))) + ((3 : Int32) * (x - x / (2 : Int32) * (2 : Int32)))) &&& 31)))))).w hA 24 (by decide) (upd (V 24) (Int32.toNatClampNeg (((640 : Int32) * s) + (FX6_cellOf I V x y))) (((V 24) (Int32.toNatClampNeg (((640 : Int32) * s) + (FX6_cellOf I V x y)))) ||| ((1 : Int32) <<< (q &&& 31))))) (fun a9 ha => by rw [xup_n (ha 24), xup_n (ha 23)]))
    refine x_icmp_ge (tgt := 75) dX6_dot_66 (by decide) (fun hc_66 => ?_) (fun hc_66 => ?_)
    · refine x_aload_n dX6_dot_75 rfl ?_
      refine x_get 23 dX6_dot_76 hM.1 rfl (by decide) (by decide +kernel) rfl ?_
      refine x_iload dX6_dot_79 rfl ?_
      refine x_iald dX6_dot_81 (hM.r 23 (by decide) (by decide)) hq ?_
      exact x_ls rfl (by first | rfl | (rw [if_pos hc_66] <;> rfl) | (simp only [if_pos hc_66]; rfl) | (simp only [if_pos hc_66])) J82
    · refine x_sipush (v := 10240) dX6_dot_69 (by decide) ?_
      refine x_goto (tgt := 82) dX6_dot_72 (by decide) ?_
      exact x_ls rfl (by first | rfl | (rw [if_neg hc_66] <;> rfl) | (simp only [if_neg hc_66]; rfl) | (simp only [if_neg hc_66])) J82
  refine x_icmp_ne (tgt := 38) dX6_dot_26 (by decide) (fun hc_26 => ?_) (fun hc_26 => ?_)
  · refine x_iconst (v := 1) dX6_dot_38 (by decide) ?_
    refine x_iload dX6_dot_39 rfl ?_
    refine x_iconst (v := 3) dX6_dot_41 (by decide) ?_
    refine x_iload_n dX6_dot_42 rfl ?_
    refine x_iconst (v := 2) dX6_dot_43 (by decide) ?_
    refine x_irem dX6_dot_44 (by decide) ?_
    refine x_imul dX6_dot_45 ?_
    refine x_iadd dX6_dot_46 ?_
    refine x_ishl dX6_dot_47 ?_
    exact x_ls rfl (by first | rfl | (rw [if_neg hc_26] <;> rfl) | (simp only [if_neg hc_26]; rfl) | (simp only [if_neg hc_26])) J48
  · refine x_bipush (v := 64) dX6_dot_29 (by decide) ?_
    refine x_iload_n dX6_dot_31 rfl ?_
    refine x_iconst (v := 2) dX6_dot_32 (by decide) ?_
    refine x_irem dX6_dot_33 (by decide) ?_
    refine x_ishl dX6_dot_34 ?_
    refine x_goto (tgt := 48) dX6_dot_35 (by decide) ?_
    exact x_ls rfl (by first | rfl | (rw [if_pos hc_26] <;> rfl) | (simp only [if_pos hc_26]; rfl) | (simp only [if_pos hc_26])) J48
