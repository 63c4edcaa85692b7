section XM
variable {G : xG} {A : Nat → Nat} {I : xMi} {V : Nat → Nat → Int32} {h : xH}
theorem xMod.o (hM : xMod G A I V h) (hA : ∀ {i j : Nat}, i ≠ j → A i ≠ A j) (I' : xMi) : xMod G A I' V (xup h (A 0) (xMo A I')) := ⟨xup_s, fun k hk => xup_k (hA (fun e => hk (by rw [e]; rfl))) (hM.2 k hk)⟩
theorem xMod.w (hM : xMod G A I V h) (hA : ∀ {i j : Nat}, i ≠ j → A i ≠ A j) (k : Nat) (hk : xMn k ≠ 0) (f : Nat → Int32) : xMod G A I (va_up V k f) (xup h (A k) (xMr G k f)) := by
  refine ⟨xup_k (hA (fun e => hk (by rw [← e]; rfl))) hM.1, fun q hq => ?_⟩
  by_cases e : q = k
  · subst e
    rw [xup_s]
    simp [va_up]
  · rw [xup_n (hA e)]
    simp only [va_up, if_neg e]
    exact hM.2 q hq
end XM
def xfM (A : Nat → Nat) (h h' : xH) : Prop := ∀ a : Nat, (∀ k, a ≠ A k) → h' a = h a
set_option maxHeartbeats 4000000 in
set_option maxRecDepth 100000 in
theorem kX6_canvas {G : xG} {l : Launch} {d : Nat} {h : xH} {Q : Option Value → xH → Prop} {A : Nat → Nat} {I : xMi} {V : Nat → Nat → Int32} {a b : Int32} (hM : xMod G A I V h) (hA : ∀ {i j : Nat}, i ≠ j → A i ≠ A j)  (hQ : (if (FX6_in a (4 : Int32) (40 : Int32)) = 0 then Q (some (.int (-1 : Int32))) h else (if (FX6_in b (2 : Int32) (16 : Int32)) = 0 then Q (some (.int (-1 : Int32))) h else (∀ h', xMod G A (a, b, I.2.2.1, (0 : Int32), (0 : Int32)) V h' → xfM A h h' → Q (some (.int (1 : Int32))) h')))) : xV G l mX6_canvas (d + 1) 0 0 0 0 0 [.ref (A 0), .int a, .int b] [] h Q := by
  refine x_iload_n dX6_canvas_0 rfl ?_
  refine x_iconst (v := 4) dX6_canvas_1 (by decide) ?_
  refine x_bipush (v := 40) dX6_canvas_2 (by decide) ?_
  refine x_callS (M' := mX6_in) (mc' := 0) (ms' := 0) (As := [.int a, .int (4 : Int32), .int (40 : Int32)]) dX6_canvas_4 gX6_canvas_X6_in okX6_in rfl rfl (Nat.le_of_ble_eq_true rfl) (Nat.le_of_ble_eq_true rfl) (Nat.le_refl _) (Nat.le_refl _) (Nat.le_refl _) ?_
  refine kX6_in  ?_
  show xV _ _ _ _ _ _ _ _ _ _ _ _ _
  refine x_if_eq (tgt := 20) dX6_canvas_7 (by decide) (fun hc_7 => ?_) (fun hc_7 => ?_)
  · refine x_iconst (v := (-1)) dX6_canvas_20 (by decide) ?_
    rw [if_pos hc_7] at hQ
    exact x_iret dX6_canvas_21 rfl hQ
  · refine x_iload_n dX6_canvas_10 rfl ?_
    refine x_iconst (v := 2) dX6_canvas_11 (by decide) ?_
    refine x_bipush (v := 16) dX6_canvas_12 (by decide) ?_
    refine x_callS (M' := mX6_in) (mc' := 0) (ms' := 0) (As := [.int b, .int (2 : Int32), .int (16 : Int32)]) dX6_canvas_14 gX6_canvas_X6_in okX6_in rfl rfl (Nat.le_of_ble_eq_true rfl) (Nat.le_of_ble_eq_true rfl) (Nat.le_refl _) (Nat.le_refl _) (Nat.le_refl _) ?_
    refine kX6_in  ?_
    show xV _ _ _ _ _ _ _ _ _ _ _ _ _
    refine x_if_ne (tgt := 22) dX6_canvas_17 (by decide) (fun hc_17 => ?_) (fun hc_17 => ?_)
    · refine x_aload_n dX6_canvas_22 rfl ?_
      refine x_iload_n dX6_canvas_23 rfl ?_
      refine x_put 0 dX6_canvas_24 hM.1 rfl (by decide) (by decide +kernel) rfl rfl rfl rfl (Nat.le_of_ble_eq_true rfl) ?_
      refine x_aload_n dX6_canvas_27 rfl ?_
      refine x_iload_n dX6_canvas_28 rfl ?_
      refine x_put 1 dX6_canvas_29 xup_s rfl (by decide) (by decide +kernel) rfl rfl rfl rfl (Nat.le_of_ble_eq_true rfl) ?_
      refine x_heap xup_u ?_
      refine x_aload_n dX6_canvas_32 rfl ?_
      refine x_iconst (v := 0) dX6_canvas_33 (by decide) ?_
      refine x_put 16 dX6_canvas_34 xup_s rfl (by decide) (by decide +kernel) rfl rfl rfl rfl (Nat.le_of_ble_eq_true rfl) ?_
      refine x_heap xup_u ?_
      refine x_aload_n dX6_canvas_37 rfl ?_
      refine x_iconst (v := 0) dX6_canvas_38 (by decide) ?_
      refine x_put 22 dX6_canvas_39 xup_s rfl (by decide) (by decide +kernel) rfl rfl rfl rfl (Nat.le_of_ble_eq_true rfl) ?_
      refine x_heap xup_u ?_
      refine x_iconst (v := 1) dX6_canvas_42 (by decide) ?_
      rw [if_neg hc_7, if_neg hc_17] at hQ
      exact x_iret dX6_canvas_43 rfl (hQ _ (hM.o hA (a, b, I.2.2.1, (0 : Int32), (0 : Int32))) (fun a9 ha => by rw [xup_n (ha 0)]))
    · refine x_iconst (v := (-1)) dX6_canvas_20 (by decide) ?_
      rw [if_neg hc_7, if_pos hc_17] at hQ
      exact x_iret dX6_canvas_21 rfl hQ
set_option maxHeartbeats 4000000 in
set_option maxRecDepth 100000 in
theorem kX6_becomes {G : xG} {l : Launch} {d : Nat} {h : xH} {Q : Option Value → xH → Prop} {A : Nat → Nat} {I : xMi} {V : Nat → Nat → Int32} {ax k : Int32} (hM : xMod G A I V h) (hA : ∀ {i j : Nat}, i ≠ j → A i ≠ A j) (hax : vp_in ax 2) (hQ : (∀ h', xMod G A (I.1, I.2.1, I.2.2.1, I.2.2.2.1, (0 : Int32)) (va_up V 2 (upd (V 2) (Int32.toNatClampNeg ax) k)) h' → xfM A h h' → Q (some (.int ((V 2) (Int32.toNatClampNeg ax)))) h')) : xV G l mX6_becomes d 0 0 0 0 0 [.ref (A 0), .int ax, .int k, xU] [] h Q := by
  refine x_aload_n dX6_becomes_0 rfl ?_
  refine x_get 2 dX6_becomes_1 hM.1 rfl (by decide) (by decide +kernel) rfl ?_
  refine x_iload_n dX6_becomes_4 rfl ?_
  refine x_iald dX6_becomes_5 (hM.r 2 (by decide) (by decide)) (by assumption) ?_
  refine x_istore_n dX6_becomes_6 (by decide) rfl ?_
  refine x_aload_n dX6_becomes_7 rfl ?_
  refine x_get 2 dX6_becomes_8 hM.1 rfl (by decide) (by decide +kernel) rfl ?_
  refine x_iload_n dX6_becomes_11 rfl ?_
  refine x_iload_n dX6_becomes_12 rfl ?_
  refine x_iast dX6_becomes_13 (hM.r 2 (by decide) (by decide)) (by assumption) ?_
  refine x_aload_n dX6_becomes_14 rfl ?_
  refine x_iconst (v := 0) dX6_becomes_15 (by decide) ?_
  refine x_put 22 dX6_becomes_16 (xup_k (hA (by decide)) hM.1) rfl (by decide) (by decide +kernel) rfl rfl rfl rfl (Nat.le_of_ble_eq_true rfl) ?_
  refine x_iload_n dX6_becomes_19 rfl ?_
  exact x_iret dX6_becomes_20 rfl (hQ _ ((hM.w hA 2 (by decide) (upd (V 2) (Int32.toNatClampNeg ax) k)).o hA (I.1, I.2.1, I.2.2.1, I.2.2.2.1, (0 : Int32))) (fun a9 ha => by rw [xup_n (ha 0), xup_n (ha 2)]))
set_option maxHeartbeats 4000000 in
set_option maxRecDepth 100000 in
theorem kX6_scale {G : xG} {l : Launch} {d : Nat} {h : xH} {Q : Option Value → xH → Prop} {A : Nat → Nat} {I : xMi} {V : Nat → Nat → Int32} {ax k a b : Int32} (hM : xMod G A I V h) (hA : ∀ {i j : Nat}, i ≠ j → A i ≠ A j)  (hQ : (if (FX6_isAxis ax) = 0 then Q (some (.int (-1 : Int32))) h else (if (FX6_in k (0 : Int32) (1 : Int32)) = 0 then Q (some (.int (-1 : Int32))) h else (if (FX6_isValue a) = 0 then Q (some (.int (-1 : Int32))) h else (if (FX6_isValue b) = 0 then Q (some (.int (-1 : Int32))) h else (if a < b then (∀ h', xMod G A (I.1, I.2.1, I.2.2.1, I.2.2.2.1, 0) (va_up (va_up (va_up V 3 (upd (V 3) (Int32.toNatClampNeg ax) a)) 4 (upd (V 4) (Int32.toNatClampNeg ax) b)) 2 (upd ((va_up (va_up V 3 (upd (V 3) (Int32.toNatClampNeg ax) a)) 4 (upd (V 4) (Int32.toNatClampNeg ax) b)) 2) (Int32.toNatClampNeg ax) k)) h' → xfM A h h' → Q (some (.int ((va_up (va_up V 3 (upd (V 3) (Int32.toNatClampNeg ax) a)) 4 (upd (V 4) (Int32.toNatClampNeg ax) b)) 2 (Int32.toNatClampNeg ax)))) h') else Q (some (.int (-1 : Int32))) h)))))) : xV G l mX6_scale (d + 2) 0 0 0 0 0 [.ref (A 0), .int ax, .int k, .int a, .int b] [] h Q := by
  refine x_iload_n dX6_scale_0 rfl ?_
  refine x_callS (M' := mX6_isAxis) (mc' := 0) (ms' := 0) (As := [.int ax]) dX6_scale_1 gX6_scale_X6_isAxis okX6_isAxis rfl rfl (Nat.le_of_ble_eq_true rfl) (Nat.le_of_ble_eq_true rfl) (Nat.le_refl _) (Nat.le_refl _) (Nat.le_refl _) ?_
  refine kX6_isAxis  ?_
  show xV _ _ _ _ _ _ _ _ _ _ _ _ _
  refine x_if_eq (tgt := 37) dX6_scale_4 (by decide) (fun hc_4 => ?_) (fun hc_4 => ?_)
  · refine x_iconst (v := (-1)) dX6_scale_37 (by decide) ?_
    rw [if_pos hc_4] at hQ
    exact x_iret dX6_scale_38 rfl hQ
  · refine x_iload_n dX6_scale_7 rfl ?_
    refine x_iconst (v := 0) dX6_scale_8 (by decide) ?_
    refine x_iconst (v := 1) dX6_scale_9 (by decide) ?_
    refine x_callS (M' := mX6_in) (mc' := 0) (ms' := 0) (As := [.int k, .int (0 : Int32), .int (1 : Int32)]) dX6_scale_10 gX6_scale_X6_in okX6_in rfl rfl (Nat.le_of_ble_eq_true rfl) (Nat.le_of_ble_eq_true rfl) (Nat.le_refl _) (Nat.le_refl _) (Nat.le_refl _) ?_
    refine kX6_in  ?_
    show xV _ _ _ _ _ _ _ _ _ _ _ _ _
    refine x_if_eq (tgt := 37) dX6_scale_13 (by decide) (fun hc_13 => ?_) (fun hc_13 => ?_)
    · refine x_iconst (v := (-1)) dX6_scale_37 (by decide) ?_
      rw [if_neg hc_4, if_pos hc_13] at hQ
      exact x_iret dX6_scale_38 rfl hQ
    · refine x_iload_n dX6_scale_16 rfl ?_
      refine x_callS (M' := mX6_isValue) (mc' := 0) (ms' := 0) (As := [.int a]) dX6_scale_17 gX6_scale_X6_isValue okX6_isValue rfl rfl (Nat.le_of_ble_eq_true rfl) (Nat.le_of_ble_eq_true rfl) (Nat.le_refl _) (Nat.le_refl _) (Nat.le_refl _) ?_
      refine kX6_isValue  ?_
      show xV _ _ _ _ _ _ _ _ _ _ _ _ _
      refine x_if_eq (tgt := 37) dX6_scale_20 (by decide) (fun hc_20 => ?_) (fun hc_20 => ?_)
      · refine x_iconst (v := (-1)) dX6_scale_37 (by decide) ?_
        rw [if_neg hc_4, if_neg hc_13, if_pos hc_20] at hQ
        exact x_iret dX6_scale_38 rfl hQ
      · refine x_iload dX6_scale_23 rfl ?_
        refine x_callS (M' := mX6_isValue) (mc' := 0) (ms' := 0) (As := [.int b]) dX6_scale_25 gX6_scale_X6_isValue okX6_isValue rfl rfl (Nat.le_of_ble_eq_true rfl) (Nat.le_of_ble_eq_true rfl) (Nat.le_refl _) (Nat.le_refl _) (Nat.le_refl _) ?_
        refine kX6_isValue  ?_
        show xV _ _ _ _ _ _ _ _ _ _ _ _ _
        refine x_if_eq (tgt := 37) dX6_scale_28 (by decide) (fun hc_28 => ?_) (fun hc_28 => ?_)
        · refine x_iconst (v := (-1)) dX6_scale_37 (by decide) ?_
          rw [if_neg hc_4, if_neg hc_13, if_neg hc_20, if_pos hc_28] at hQ
          exact x_iret dX6_scale_38 rfl hQ
        · refine x_iload_n dX6_scale_31 rfl ?_
          refine x_iload dX6_scale_32 rfl ?_
          refine x_icmp_lt (tgt := 39) dX6_scale_34 (by decide) (fun hc_34 => ?_) (fun hc_34 => ?_)
          · refine x_aload_n dX6_scale_39 rfl ?_
            refine x_get 3 dX6_scale_40 hM.1 rfl (by decide) (by decide +kernel) rfl ?_
            refine x_iload_n dX6_scale_43 rfl ?_
            refine x_iload_n dX6_scale_44 rfl ?_
            refine x_iast dX6_scale_45 (hM.r 3 (by decide) (by decide)) (axis_in hc_4) ?_
            refine x_aload_n dX6_scale_46 rfl ?_
            refine x_get 4 dX6_scale_47 (xup_k (hA (by decide)) hM.1) rfl (by decide) (by decide +kernel) rfl ?_
            refine x_iload_n dX6_scale_50 rfl ?_
            refine x_iload dX6_scale_51 rfl ?_
            refine x_iast dX6_scale_53 (xup_k (hA (by decide)) (hM.r 4 (by decide) (by decide))) (axis_in hc_4) ?_
            refine x_aload_n dX6_scale_54 rfl ?_
            refine x_iload_n dX6_scale_55 rfl ?_
            refine x_iload_n dX6_scale_56 rfl ?_
            refine x_callV (M' := mX6_becomes) (mc' := 0) (ms' := 0) (As := [.int ax, .int k]) dX6_scale_57 gX6_scale_X6_becomes okX6_becomes rfl rfl (xup_k (hA (by decide)) (xup_k (hA (by decide)) hM.1)) rfl (Nat.le_of_ble_eq_true rfl) (Nat.le_of_ble_eq_true rfl) (Nat.le_refl _) (Nat.le_refl _) (Nat.le_refl _) ?_
            refine kX6_becomes ((hM.w hA 3 (by decide) (upd (V 3) (Int32.toNatClampNeg ax) a)).w hA 4 (by decide) (upd (V 4) (Int32.toNatClampNeg ax) b)) hA (axis_in hc_4) (fun h9 hM9 hF9 => ?_)
            show xV _ _ _ _ _ _ _ _ _ _ _ _ _
            rw [if_neg hc_4, if_neg hc_13, if_neg hc_20, if_neg hc_28, if_pos hc_34] at hQ
            exact x_iret dX6_scale_60 rfl (hQ _ hM9 (fun a9 ha => (hF9 a9 ha).trans (by rw [xup_n (ha 4), xup_n (ha 3)])))
          · refine x_iconst (v := (-1)) dX6_scale_37 (by decide) ?_
            rw [if_neg hc_4, if_neg hc_13, if_neg hc_20, if_neg hc_28, if_neg hc_34] at hQ
            exact x_iret dX6_scale_38 rfl hQ
set_option maxHeartbeats 4000000 in
set_option maxRecDepth 100000 in
theorem kX6_cut {G : xG} {l : Launch} {d : Nat} {h : xH} {Q : Option Value → xH → Prop} {A : Nat → Nat} {I : xMi} {V : Nat → Nat → Int32} {ax a b : Int32} (hM : xMod G A I V h) (hA : ∀ {i j : Nat}, i ≠ j → A i ≠ A j)  (hQ : (if (FX6_isAxis ax) = 0 then Q (some (.int (-1 : Int32))) h else (if a ≤ ((V 3) (Int32.toNatClampNeg ax)) then Q (some (.int (-1 : Int32))) h else (if b ≤ a then Q (some (.int (-1 : Int32))) h else (if b < ((V 4) (Int32.toNatClampNeg ax)) then (∀ h', xMod G A (I.1, I.2.1, I.2.2.1, I.2.2.2.1, 0) (va_up (va_up (va_up V 5 (upd (V 5) (Int32.toNatClampNeg ax) a)) 6 (upd (V 6) (Int32.toNatClampNeg ax) b)) 2 (upd ((va_up (va_up V 5 (upd (V 5) (Int32.toNatClampNeg ax) a)) 6 (upd (V 6) (Int32.toNatClampNeg ax) b)) 2) (Int32.toNatClampNeg ax) (2 : Int32))) h' → xfM A h h' → Q (some (.int ((va_up (va_up V 5 (upd (V 5) (Int32.toNatClampNeg ax) a)) 6 (upd (V 6) (Int32.toNatClampNeg ax) b)) 2 (Int32.toNatClampNeg ax)))) h') else Q (some (.int (-1 : Int32))) h))))) : xV G l mX6_cut (d + 2) 0 0 0 0 0 [.ref (A 0), .int ax, .int a, .int b] [] h Q := by
  refine x_iload_n dX6_cut_0 rfl ?_
  refine x_callS (M' := mX6_isAxis) (mc' := 0) (ms' := 0) (As := [.int ax]) dX6_cut_1 gX6_cut_X6_isAxis okX6_isAxis rfl rfl (Nat.le_of_ble_eq_true rfl) (Nat.le_of_ble_eq_true rfl) (Nat.le_refl _) (Nat.le_refl _) (Nat.le_refl _) ?_
  refine kX6_isAxis  ?_
  show xV _ _ _ _ _ _ _ _ _ _ _ _ _
  refine x_if_eq (tgt := 32) dX6_cut_4 (by decide) (fun hc_4 => ?_) (fun hc_4 => ?_)
  · refine x_iconst (v := (-1)) dX6_cut_32 (by decide) ?_
    rw [if_pos hc_4] at hQ
    exact x_iret dX6_cut_33 rfl hQ
  · refine x_iload_n dX6_cut_7 rfl ?_
    refine x_aload_n dX6_cut_8 rfl ?_
    refine x_get 3 dX6_cut_9 hM.1 rfl (by decide) (by decide +kernel) rfl ?_
    refine x_iload_n dX6_cut_12 rfl ?_
    refine x_iald dX6_cut_13 (hM.r 3 (by decide) (by decide)) (axis_in hc_4) ?_
    refine x_icmp_le (tgt := 32) dX6_cut_14 (by decide) (fun hc_14 => ?_) (fun hc_14 => ?_)
    · refine x_iconst (v := (-1)) dX6_cut_32 (by decide) ?_
      rw [if_neg hc_4, if_pos hc_14] at hQ
      exact x_iret dX6_cut_33 rfl hQ
    · refine x_iload_n dX6_cut_17 rfl ?_
      refine x_iload_n dX6_cut_18 rfl ?_
      refine x_icmp_le (tgt := 32) dX6_cut_19 (by decide) (fun hc_19 => ?_) (fun hc_19 => ?_)
      · refine x_iconst (v := (-1)) dX6_cut_32 (by decide) ?_
        rw [if_neg hc_4, if_neg hc_14, if_pos hc_19] at hQ
        exact x_iret dX6_cut_33 rfl hQ
      · refine x_aload_n dX6_cut_22 rfl ?_
        refine x_get 4 dX6_cut_23 hM.1 rfl (by decide) (by decide +kernel) rfl ?_
        refine x_iload_n dX6_cut_26 rfl ?_
        refine x_iald dX6_cut_27 (hM.r 4 (by decide) (by decide)) (axis_in hc_4) ?_
        refine x_iload_n dX6_cut_28 rfl ?_
        refine x_icmp_gt (tgt := 34) dX6_cut_29 (by decide) (fun hc_29 => ?_) (fun hc_29 => ?_)
        · refine x_aload_n dX6_cut_34 rfl ?_
          refine x_get 5 dX6_cut_35 hM.1 rfl (by decide) (by decide +kernel) rfl ?_
          refine x_iload_n dX6_cut_38 rfl ?_
          refine x_iload_n dX6_cut_39 rfl ?_
          refine x_iast dX6_cut_40 (hM.r 5 (by decide) (by decide)) (axis_in hc_4) ?_
          refine x_aload_n dX6_cut_41 rfl ?_
          refine x_get 6 dX6_cut_42 (xup_k (hA (by decide)) hM.1) rfl (by decide) (by decide +kernel) rfl ?_
          refine x_iload_n dX6_cut_45 rfl ?_
          refine x_iload_n dX6_cut_46 rfl ?_
          refine x_iast dX6_cut_47 (xup_k (hA (by decide)) (hM.r 6 (by decide) (by decide))) (axis_in hc_4) ?_
          refine x_aload_n dX6_cut_48 rfl ?_
          refine x_iload_n dX6_cut_49 rfl ?_
          refine x_iconst (v := 2) dX6_cut_50 (by decide) ?_
          refine x_callV (M' := mX6_becomes) (mc' := 0) (ms' := 0) (As := [.int ax, .int (2 : Int32)]) dX6_cut_51 gX6_cut_X6_becomes okX6_becomes rfl rfl (xup_k (hA (by decide)) (xup_k (hA (by decide)) hM.1)) rfl (Nat.le_of_ble_eq_true rfl) (Nat.le_of_ble_eq_true rfl) (Nat.le_refl _) (Nat.le_refl _) (Nat.le_refl _) ?_
          refine kX6_becomes ((hM.w hA 5 (by decide) (upd (V 5) (Int32.toNatClampNeg ax) a)).w hA 6 (by decide) (upd (V 6) (Int32.toNatClampNeg ax) b)) hA (axis_in hc_4) (fun h9 hM9 hF9 => ?_)
          show xV _ _ _ _ _ _ _ _ _ _ _ _ _
          rw [if_neg hc_4, if_neg hc_14, if_neg hc_19, if_pos hc_29] at hQ
          exact x_iret dX6_cut_54 rfl (hQ _ hM9 (fun a9 ha => (hF9 a9 ha).trans (by rw [xup_n (ha 6), xup_n (ha 5)])))
        · refine x_iconst (v := (-1)) dX6_cut_32 (by decide) ?_
          rw [if_neg hc_4, if_neg hc_14, if_neg hc_19, if_neg hc_29] at hQ
          exact x_iret dX6_cut_33 rfl hQ
