set_option maxHeartbeats 4000000 in
set_option maxRecDepth 100000 in
theorem kJ7_fill_53178 {G : xG} {l : Launch} {d : Nat} {h : xH} {Q : Option Value → xH → Prop} {a : Nat} {v : Int32} {f : Nat → Int32} (hh : h a = some (xRi G 640 f)) (hQ : Q none (xup h a (xRi G 640 (fun _ => v)))) : xV G l mJ7_fill_53178 d 0 0 0 0 0 [.ref a, .int v, xU, xU] [] h Q := by
  have loop : ∀ (n9 j : Nat) (f9 : Nat → Int32) (h1 : xH), j + n9 = 640 → h1 a = some (xRi G 640 f9) → (∀ i, i < j → f9 i = v) → (∀ z, xup h1 a z = xup h a z) → xV G l mJ7_fill_53178 d 0 0 0 0 5 [.ref a, .int v, .int (nI j), .int 640] [] h1 Q := by
    clear hh
    intro n9
    induction n9 with
    | zero =>
      intro j f9 h1 hj hh h2 h3
      refine x_iload_n dJ7_fill_53178_5 rfl ?_
      refine x_iload_n dJ7_fill_53178_6 rfl ?_
      refine x_icmp_ge (tgt := 20) dJ7_fill_53178_7 (by decide) (fun _ => ?_) (fun z9 => absurd (nI_le (a := 640) (b := j) (by omega) (by omega)) z9)
      refine x_rext hh (f' := fun _ => v) (fun i hi => h2 i (by omega)) ?_
      exact x_vret dJ7_fill_53178_20 rfl (h3 _ ▸ hQ)
    | succ n9 ih =>
      intro j f9 h1 hj hh h2 h3
      refine x_iload_n dJ7_fill_53178_5 rfl ?_
      refine x_iload_n dJ7_fill_53178_6 rfl ?_
      refine x_icmp_ge (tgt := 20) dJ7_fill_53178_7 (by decide) (fun z9 => absurd z9 (nI_ge (a := j) (b := 640) (by omega) (by decide))) (fun _ => ?_)
      refine x_aload_n dJ7_fill_53178_10 rfl ?_
      refine x_iload_n dJ7_fill_53178_11 rfl ?_
      refine x_iload_n dJ7_fill_53178_12 rfl ?_
      refine x_iast dJ7_fill_53178_13 hh (vp_in_nI (by omega) (by decide)) ?_
      refine x_iinc (v := 1) dJ7_fill_53178_14 rfl (by decide) (by decide) rfl ?_
      refine x_goto (tgt := 5) dJ7_fill_53178_17 (by decide) ?_
      refine xV.sub (L' := [.ref a, .int v, .int (nI (j + 1)), .int 640]) ⟨Or.inr rfl, Or.inr rfl, Or.inr (congrArg Value.int (nI_1 j)), Or.inr rfl, trivial⟩ (ih (j + 1) _ _ (by omega) xup_s (fun i hi => by
        rw [nI_clamp (by omega)]
        by_cases e : i = j
        · subst e; exact pk_us
        · rw [pk_un e]; exact h2 i (by omega)) (fun z => xup_u.trans (h3 z)))
  refine x_iconst (v := 0) dJ7_fill_53178_0 (by decide) ?_
  refine x_istore_n dJ7_fill_53178_1 (by decide) rfl ?_
  refine x_aload_n dJ7_fill_53178_2 rfl ?_
  refine x_alenI (v := 640) dJ7_fill_53178_3 hh (by decide) ?_
  refine x_istore_n dJ7_fill_53178_4 (by decide) rfl ?_
  refine xV.sub (L' := [.ref a, .int v, .int (nI 0), .int 640]) ⟨Or.inr rfl, Or.inr rfl, Or.inr (congrArg Value.int nI_0.symm), Or.inr rfl, trivial⟩ (loop 640 0 f h (by omega) hh (fun i hi => absurd hi (Nat.not_lt_zero i)) (fun z => rfl))
set_option maxHeartbeats 4000000 in
set_option maxRecDepth 100000 in
theorem kX4_wipe {G : xG} {l : Launch} {d : Nat} {h : xH} {Q : Option Value → xH → Prop} {pg : Nat} {B : Nat → Nat} {I : xSi} {V : Nat → Nat → Int32} (hS : xSer G B pg I V h) (hB : ∀ {i j : Nat}, i ≠ j → B i ≠ B j)  (hQ : Q none (xup (xup h (B 6) (xRi G 640 (fun _ => (0 : Int32)))) (B 7) (xRi G 640 (fun _ => (0 : Int32))))) : xV G l mX4_wipe (d + 1) 0 0 0 0 0 [.ref (B 5)] [] h Q := by
  refine x_aload_n dX4_wipe_0 rfl ?_
  refine x_get 1 dX4_wipe_1 hS.2.2.2.2.2.1 rfl (by decide) (by decide +kernel) rfl ?_
  refine x_iconst (v := 0) dX4_wipe_4 (by decide) ?_
  refine x_callS (M' := mJ7_fill_53178) (mc' := 0) (ms' := 0) (As := [.ref (B 6), .int (0 : Int32)]) dX4_wipe_5 gX4_wipe_J7_fill_53178 okJ7_fill_53178 rfl rfl (Nat.le_of_ble_eq_true rfl) (Nat.le_of_ble_eq_true rfl) (Nat.le_refl _) (Nat.le_refl _) (Nat.le_refl _) ?_
  refine kJ7_fill_53178 hS.2.2.2.2.2.2.1 ?_
  show xV _ _ _ _ _ _ _ _ _ _ _ _ _
  refine x_aload_n dX4_wipe_8 rfl ?_
  refine x_get 2 dX4_wipe_9 (xup_k (hB (by decide)) hS.2.2.2.2.2.1) rfl (by decide) (by decide +kernel) rfl ?_
  refine x_iconst (v := 0) dX4_wipe_12 (by decide) ?_
  refine x_callS (M' := mJ7_fill_53178) (mc' := 0) (ms' := 0) (As := [.ref (B 7), .int (0 : Int32)]) dX4_wipe_13 gX4_wipe_J7_fill_53178 okJ7_fill_53178 rfl rfl (Nat.le_of_ble_eq_true rfl) (Nat.le_of_ble_eq_true rfl) (Nat.le_refl _) (Nat.le_refl _) (Nat.le_refl _) ?_
  refine kJ7_fill_53178 (xup_k (hB (by decide)) hS.2.2.2.2.2.2.2) ?_
  show xV _ _ _ _ _ _ _ _ _ _ _ _ _
  exact x_vret dX4_wipe_16 rfl hQ
def xR0 : xR2 := (fun _ => 0, fun _ => 0)
theorem kX4_wipeA {G : xG} {l : Launch} {d : Nat} {h : xH} {Q : Option Value → xH → Prop} {pg : Nat} {B : Nat → Nat} {I : xSi} {V : Nat → Nat → Int32} (hS : xSer G B pg I V h) (hB : ∀ {i j : Nat}, i ≠ j → B i ≠ B j) (hQ : ∀ h', xSer G B pg I (vrow V xR0) h' → xfr B h h' → Q none h') : xV G l mX4_wipe (d + 1) 0 0 0 0 0 [.ref (B 5)] [] h Q := by
  refine kX4_wipe hS hB (hQ _ ?_ ?_)
  · have h1 := (hS.up6 hB (fun _ => 0)).up7 hB (fun _ => 0)
    exact h1
  · exact xfr.u6.tr xfr.u7
theorem spotS {G : xG} {pg : Nat} {B : Nat → Nat} {I : xSi} {V : Nat → Nat → Int32} {r : xR2} {h : xH} {q t : Int32} (hS : xSer G B pg I (vrow V r) h) (hB : ∀ {i j : Nat}, i ≠ j → B i ≠ B j) : xSer G B pg I (vrow V (r.1, dHit r.2 q t)) (xup h (B 7) (xRi G 640 (dHit (vrow V r 7) q t))) := by
  have h1 := hS.up7 hB (dHit r.2 q t)
  have e1 : va_up (vrow V r) 7 (dHit r.2 q t) = vrow V (r.1, dHit r.2 q t) := by
    funext q
    simp only [vrow, va_up]
    by_cases h7 : q = 7
    · subst h7; simp
    · simp [h7]
  rw [e1] at h1
  exact h1
def sPx (p : xPv) (I : xSi) (V : Nat → Nat → Int32) (i : Int32) : Int32 := FX3_dotAcross p I V i
def sPy (p : xPv) (I : xSi) (V : Nat → Nat → Int32) (i : Int32) : Int32 := FX3_dotUpwards p I V i
def sBx (p : xPv) (I : xSi) (V : Nat → Nat → Int32) (i : Int32) : Int32 := if FX3_isSeen p I V (i - 1) = 0 then sPx p I V i else FX3_dotAcross p I V (i - 1)
def sBy (p : xPv) (I : xSi) (V : Nat → Nat → Int32) (i : Int32) : Int32 := if FX3_isSeen p I V (i - 1) = 0 then sPy p I V i else FX3_dotUpwards p I V (i - 1)
def sE1 (p : xPv) (I : xSi) (V : Nat → Nat → Int32) (i : Int32) : Int32 := FX3_endOf p I V (V 2 (Int32.toNatClampNeg i) - V 3 (Int32.toNatClampNeg i)) (sPy p I V i)
def sE2 (p : xPv) (I : xSi) (V : Nat → Nat → Int32) (i : Int32) : Int32 := FX3_endOf p I V (V 2 (Int32.toNatClampNeg i) + V 3 (Int32.toNatClampNeg i)) (sPy p I V i)
/-- what a seen point draws -/
def FX3_drawSeen (p : xPv) (I : xSi) (V : Nat → Nat → Int32) (r : xR2) (i : Int32) : xR2 :=
  if I.1 = 0 then (r.1, dHit r.2 (dcell p (sPx p I V i) (sPy p I V i)) i)
  else if I.1 = 1 then FX4_line p r (sBx p I V i) (sBy p I V i) (sPx p I V i) (sPy p I V i) i
  else if I.1 = 2 then FX4_line p (FX4_line p r (sBx p I V i) (sBy p I V i) (sPx p I V i) (sBy p I V i) i) (sPx p I V i) (sBy p I V i) (sPx p I V i) (sPy p I V i) i
  else if I.1 = 3 then FX4_bar p r (sPx p I V i) (sPy p I V i) i
  else FX4_line p r (sPx p I V i) (sE1 p I V i) (sPx p I V i) (sE2 p I V i) i
def drOk (p : xPv) (I : xSi) (V : Nat → Nat → Int32) (i : Int32) : Prop := vp_in (dcell p (sPx p I V i) (sPy p I V i)) 640 ∧ lnOk p (sBx p I V i) (sBy p I V i) (sPx p I V i) (sPy p I V i) ∧ lnOk p (sBx p I V i) (sBy p I V i) (sPx p I V i) (sBy p I V i) ∧ lnOk p (sPx p I V i) (sBy p I V i) (sPx p I V i) (sPy p I V i) ∧ barOk p (sPx p I V i) ∧ lnOk p (sPx p I V i) (sE1 p I V i) (sPx p I V i) (sE2 p I V i)
set_option maxHeartbeats 4000000 in
set_option maxRecDepth 100000 in
theorem kX3_drawSeen {G : xG} {l : Launch} {d : Nat} {h : xH} {Q : Option Value → xH → Prop} {pg sx sy : Nat} {p : xPv} {B : Nat → Nat} {I : xSi} {V : Nat → Nat → Int32} {r : xR2} {i : Int32} (hP : xPg pg sx sy p h) (hS : xSer G B pg I (vrow V r) h) (hz : I.2.2.2.1 ≤ 24) (hB : ∀ {i j : Nat}, i ≠ j → B i ≠ B j) (hn : ∀ i, B i ≠ pg ∧ B i ≠ sx ∧ B i ≠ sy) (hi : vp_in i 24) (hok : drOk p I (vrow V r) i) (hQ : ∀ h', xSer G B pg I (vrow V (FX3_drawSeen p I (vrow V r) r i)) h' → xfr B h h' → Q none h') : xV G l mX3_drawSeen (d + 3) 0 0 0 0 0 [.ref (B 0), .int i, xU, xU, xU, xU, xU] [] h Q := by
  refine x_aload_n dX3_drawSeen_0 rfl ?_
  refine x_iload_n dX3_drawSeen_1 rfl ?_
  refine x_callV (M' := mX3_dotAcross) (mc' := 0) (ms' := 0) (As := [.int i]) dX3_drawSeen_2 gX3_drawSeen_X3_dotAcross okX3_dotAcross rfl rfl hS.1 rfl (Nat.le_of_ble_eq_true rfl) (Nat.le_of_ble_eq_true rfl) (Nat.le_refl _) (Nat.le_refl _) (Nat.le_refl _) ?_
  refine kX3_dotAcross hP hS hz ?_
  show xV _ _ _ _ _ _ _ _ _ _ _ _ _
  refine x_ls (st' := [.int (sPx p I (vrow V r) i)]) rfl rfl ?_
  refine x_istore_n dX3_drawSeen_5 (by decide) rfl ?_
  refine x_aload_n dX3_drawSeen_6 rfl ?_
  refine x_iload_n dX3_drawSeen_7 rfl ?_
  refine x_callV (M' := mX3_dotUpwards) (mc' := 0) (ms' := 0) (As := [.int i]) dX3_drawSeen_8 gX3_drawSeen_X3_dotUpwards okX3_dotUpwards rfl rfl hS.1 rfl (Nat.le_of_ble_eq_true rfl) (Nat.le_of_ble_eq_true rfl) (Nat.le_refl _) (Nat.le_refl _) (Nat.le_refl _) ?_
  refine kX3_dotUpwards hP hS hz ?_
  show xV _ _ _ _ _ _ _ _ _ _ _ _ _
  refine x_ls (st' := [.int (sPy p I (vrow V r) i)]) rfl rfl ?_
  refine x_istore_n dX3_drawSeen_11 (by decide) rfl ?_
  refine x_aload_n dX3_drawSeen_12 rfl ?_
  refine x_iload_n dX3_drawSeen_13 rfl ?_
  refine x_iconst (v := 1) dX3_drawSeen_14 (by decide) ?_
  refine x_isub dX3_drawSeen_15 ?_
  refine x_callV (M' := mX3_isSeen) (mc' := 0) (ms' := 0) (As := [.int (i - (1 : Int32))]) dX3_drawSeen_16 gX3_drawSeen_X3_isSeen okX3_isSeen rfl rfl hS.1 rfl (Nat.le_of_ble_eq_true rfl) (Nat.le_of_ble_eq_true rfl) (Nat.le_refl _) (Nat.le_refl _) (Nat.le_refl _) ?_
  refine kX3_isSeen hP hS hz ?_
  show xV _ _ _ _ _ _ _ _ _ _ _ _ _
  refine x_istore dX3_drawSeen_19 (by decide) rfl ?_
  refine x_iload dX3_drawSeen_21 rfl ?_
  have J37 : xV G l mX3_drawSeen (d + 3) 0 0 0 0 37 [.ref (B 0), .int i, .int (sPx p I (vrow V r) i), .int (sPy p I (vrow V r) i), .int (FX3_isSeen p I (vrow V r) (i - (1 : Int32))), xU, xU] [.int (if (FX3_isSeen p I (vrow V r) (i - (1 : Int32))) = 0 then (sPx p I (vrow V r) i) else (FX3_dotAcross p I (vrow V r) (i - (1 : Int32))))] h Q := by
    refine x_ls (st' := [.int (sBx p I (vrow V r) i)]) rfl rfl ?_
    refine x_istore dX3_drawSeen_37 (by decide) rfl ?_
    refine x_iload dX3_drawSeen_39 rfl ?_
    have J55 : xV G l mX3_drawSeen (d + 3) 0 0 0 0 55 [.ref (B 0), .int i, .int (sPx p I (vrow V r) i), .int (sPy p I (vrow V r) i), .int (FX3_isSeen p I (vrow V r) (i - (1 : Int32))), .int (sBx p I (vrow V r) i), xU] [.int (if (FX3_isSeen p I (vrow V r) (i - (1 : Int32))) = 0 then (sPy p I (vrow V r) i) else (FX3_dotUpwards p I (vrow V r) (i - (1 : Int32))))] h Q := by
      refine x_ls (st' := [.int (sBy p I (vrow V r) i)]) rfl rfl ?_
      refine x_istore dX3_drawSeen_55 (by decide) rfl ?_
      refine x_aload_n dX3_drawSeen_57 rfl ?_
      refine x_get 0 dX3_drawSeen_58 hS.1 rfl (by decide) (by decide +kernel) rfl ?_
      by_cases hs_61_0 : I.1 = 0
      · refine x_tcase hs_61_0 (tgt := 92) (off := 31) dX3_drawSeen_61 (by decide) (by decide) (by decide) (by decide) ?_
        refine x_aload_n dX3_drawSeen_92 rfl ?_
        refine x_get 10 dX3_drawSeen_93 hS.1 rfl (by decide) (by decide +kernel) rfl ?_
        refine x_iload_n dX3_drawSeen_96 rfl ?_
        refine x_iload_n dX3_drawSeen_97 rfl ?_
        refine x_iload_n dX3_drawSeen_98 rfl ?_
        refine x_callV (M' := mX4_spot) (mc' := 0) (ms' := 0) (As := [.int (sPx p I (vrow V r) i), .int (sPy p I (vrow V r) i), .int i]) dX3_drawSeen_99 gX3_drawSeen_X4_spot okX4_spot rfl rfl hS.2.2.2.2.2.1 rfl (Nat.le_of_ble_eq_true rfl) (Nat.le_of_ble_eq_true rfl) (Nat.le_refl _) (Nat.le_refl _) (Nat.le_refl _) ?_
        refine kX4_spot hP hS hok.1 ?_
        have hS := spotS hS hB (q := dcell p (sPx p I (vrow V r) i) (sPy p I (vrow V r) i)) (t := i)
        show xV _ _ _ _ _ _ _ _ _ _ _ _ _
        refine x_goto (tgt := 212) dX3_drawSeen_102 (by decide) ?_
        exact x_vret dX3_drawSeen_212 rfl (hQ _ (by unfold FX3_drawSeen; rw [if_pos hs_61_0]; exact hS) xfr.u7)
      by_cases hs_61_1 : I.1 = 1
      · refine x_tcase hs_61_1 (tgt := 105) (off := 44) dX3_drawSeen_61 (by decide) (by decide) (by decide) (by decide) ?_
        refine x_aload_n dX3_drawSeen_105 rfl ?_
        refine x_get 10 dX3_drawSeen_106 hS.1 rfl (by decide) (by decide +kernel) rfl ?_
        refine x_iload dX3_drawSeen_109 rfl ?_
        refine x_iload dX3_drawSeen_111 rfl ?_
        refine x_iload_n dX3_drawSeen_113 rfl ?_
        refine x_iload_n dX3_drawSeen_114 rfl ?_
        refine x_iload_n dX3_drawSeen_115 rfl ?_
        refine x_callV (M' := mX4_line) (mc' := 0) (ms' := 0) (As := [.int (sBx p I (vrow V r) i), .int (sBy p I (vrow V r) i), .int (sPx p I (vrow V r) i), .int (sPy p I (vrow V r) i), .int i]) dX3_drawSeen_116 gX3_drawSeen_X4_line okX4_line rfl rfl hS.2.2.2.2.2.1 rfl (Nat.le_of_ble_eq_true rfl) (Nat.le_of_ble_eq_true rfl) (Nat.le_refl _) (Nat.le_refl _) (Nat.le_refl _) ?_
        refine kX4_line hP hS hB hn hok.2.1 (fun h_116 hS_116 hF_116 => ?_)
        have hP := hP.fr hF_116 hn
        have hS := hS_116
        show xV _ _ _ _ _ _ _ _ _ _ _ _ _
        refine x_goto (tgt := 212) dX3_drawSeen_119 (by decide) ?_
        exact x_vret dX3_drawSeen_212 rfl (hQ _ (by unfold FX3_drawSeen; rw [if_neg hs_61_0, if_pos hs_61_1]; exact hS) hF_116)
      by_cases hs_61_2 : I.1 = 2
      · refine x_tcase hs_61_2 (tgt := 122) (off := 61) dX3_drawSeen_61 (by decide) (by decide) (by decide) (by decide) ?_
        refine x_aload_n dX3_drawSeen_122 rfl ?_
        refine x_get 10 dX3_drawSeen_123 hS.1 rfl (by decide) (by decide +kernel) rfl ?_
        refine x_iload dX3_drawSeen_126 rfl ?_
        refine x_iload dX3_drawSeen_128 rfl ?_
        refine x_iload_n dX3_drawSeen_130 rfl ?_
        refine x_iload dX3_drawSeen_131 rfl ?_
        refine x_iload_n dX3_drawSeen_133 rfl ?_
        refine x_callV (M' := mX4_line) (mc' := 0) (ms' := 0) (As := [.int (sBx p I (vrow V r) i), .int (sBy p I (vrow V r) i), .int (sPx p I (vrow V r) i), .int (sBy p I (vrow V r) i), .int i]) dX3_drawSeen_134 gX3_drawSeen_X4_line okX4_line rfl rfl hS.2.2.2.2.2.1 rfl (Nat.le_of_ble_eq_true rfl) (Nat.le_of_ble_eq_true rfl) (Nat.le_refl _) (Nat.le_refl _) (Nat.le_refl _) ?_
        refine kX4_line hP hS hB hn hok.2.2.1 (fun h_134 hS_134 hF_134 => ?_)
        have hP := hP.fr hF_134 hn
        have hS := hS_134
        show xV _ _ _ _ _ _ _ _ _ _ _ _ _
        refine x_aload_n dX3_drawSeen_137 rfl ?_
        refine x_get 10 dX3_drawSeen_138 hS.1 rfl (by decide) (by decide +kernel) rfl ?_
        refine x_iload_n dX3_drawSeen_141 rfl ?_
        refine x_iload dX3_drawSeen_142 rfl ?_
        refine x_iload_n dX3_drawSeen_144 rfl ?_
        refine x_iload_n dX3_drawSeen_145 rfl ?_
        refine x_iload_n dX3_drawSeen_146 rfl ?_
        refine x_callV (M' := mX4_line) (mc' := 0) (ms' := 0) (As := [.int (sPx p I (vrow V r) i), .int (sBy p I (vrow V r) i), .int (sPx p I (vrow V r) i), .int (sPy p I (vrow V r) i), .int i]) dX3_drawSeen_147 gX3_drawSeen_X4_line okX4_line rfl rfl hS.2.2.2.2.2.1 rfl (Nat.le_of_ble_eq_true rfl) (Nat.le_of_ble_eq_true rfl) (Nat.le_refl _) (Nat.le_refl _) (Nat.le_refl _) ?_
        refine kX4_line hP hS hB hn hok.2.2.2.1 (fun h_147 hS_147 hF_147 => ?_)
        have hP := hP.fr hF_147 hn
        have hS := hS_147
        show xV _ _ _ _ _ _ _ _ _ _ _ _ _
        refine x_goto (tgt := 212) dX3_drawSeen_150 (by decide) ?_
        exact x_vret dX3_drawSeen_212 rfl (hQ _ (by unfold FX3_drawSeen; rw [if_neg hs_61_0, if_neg hs_61_1, if_pos hs_61_2]; exact hS) (hF_134.tr hF_147))
      by_cases hs_61_3 : I.1 = 3
      · refine x_tcase hs_61_3 (tgt := 153) (off := 92) dX3_drawSeen_61 (by decide) (by decide) (by decide) (by decide) ?_
        refine x_aload_n dX3_drawSeen_153 rfl ?_
        refine x_get 10 dX3_drawSeen_154 hS.1 rfl (by decide) (by decide +kernel) rfl ?_
        refine x_iload_n dX3_drawSeen_157 rfl ?_
        refine x_iload_n dX3_drawSeen_158 rfl ?_
        refine x_iload_n dX3_drawSeen_159 rfl ?_
        refine x_callV (M' := mX4_bar) (mc' := 0) (ms' := 0) (As := [.int (sPx p I (vrow V r) i), .int (sPy p I (vrow V r) i), .int i]) dX3_drawSeen_160 gX3_drawSeen_X4_bar okX4_bar rfl rfl hS.2.2.2.2.2.1 rfl (Nat.le_of_ble_eq_true rfl) (Nat.le_of_ble_eq_true rfl) (Nat.le_refl _) (Nat.le_refl _) (Nat.le_refl _) ?_
        refine kX4_bar hP hS hB hn hok.2.2.2.2.1 (fun h_160 hS_160 hF_160 => ?_)
        have hP := hP.fr hF_160 hn
        have hS := hS_160
        show xV _ _ _ _ _ _ _ _ _ _ _ _ _
        refine x_goto (tgt := 212) dX3_drawSeen_163 (by decide) ?_
        exact x_vret dX3_drawSeen_212 rfl (hQ _ (by unfold FX3_drawSeen; rw [if_neg hs_61_0, if_neg hs_61_1, if_neg hs_61_2, if_pos hs_61_3]; exact hS) hF_160)
      have z_61_0 : Int32.toInt (I.1) ≠ 0 := fun q => hs_61_0 (Int32.toInt_inj.mp (by rw [q]; rfl))
      have z_61_1 : Int32.toInt (I.1) ≠ 1 := fun q => hs_61_1 (Int32.toInt_inj.mp (by rw [q]; rfl))
      have z_61_2 : Int32.toInt (I.1) ≠ 2 := fun q => hs_61_2 (Int32.toInt_inj.mp (by rw [q]; rfl))
      have z_61_3 : Int32.toInt (I.1) ≠ 3 := fun q => hs_61_3 (Int32.toInt_inj.mp (by rw [q]; rfl))
      refine x_tout (tgt := 166) dX3_drawSeen_61 (by omega) (by decide) ?_
      refine x_aload_n dX3_drawSeen_166 rfl ?_
      refine x_get 10 dX3_drawSeen_167 hS.1 rfl (by decide) (by decide +kernel) rfl ?_
      refine x_iload_n dX3_drawSeen_170 rfl ?_
      refine x_aload_n dX3_drawSeen_171 rfl ?_
      refine x_aload_n dX3_drawSeen_172 rfl ?_
      refine x_get 6 dX3_drawSeen_173 hS.1 rfl (by decide) (by decide +kernel) rfl ?_
      refine x_iload_n dX3_drawSeen_176 rfl ?_
      refine x_iald dX3_drawSeen_177 hS.2.2.1 hi ?_
      refine x_aload_n dX3_drawSeen_178 rfl ?_
      refine x_get 7 dX3_drawSeen_179 hS.1 rfl (by decide) (by decide +kernel) rfl ?_
      refine x_iload_n dX3_drawSeen_182 rfl ?_
      refine x_iald dX3_drawSeen_183 hS.2.2.2.1 hi ?_
      refine x_isub dX3_drawSeen_184 ?_
      refine x_iload_n dX3_drawSeen_185 rfl ?_
      refine x_callV (M' := mX3_endOf) (mc' := 0) (ms' := 0) (As := [.int ((((vrow V r) 2) (Int32.toNatClampNeg i)) - (((vrow V r) 3) (Int32.toNatClampNeg i))), .int (sPy p I (vrow V r) i)]) dX3_drawSeen_186 gX3_drawSeen_X3_endOf okX3_endOf rfl rfl hS.1 rfl (Nat.le_of_ble_eq_true rfl) (Nat.le_of_ble_eq_true rfl) (Nat.le_refl _) (Nat.le_refl _) (Nat.le_refl _) ?_
      refine kX3_endOf hP hS ?_
      show xV _ _ _ _ _ _ _ _ _ _ _ _ _
      refine x_ls (st' := [.int (sE1 p I (vrow V r) i), .int (sPx p I (vrow V r) i), .ref (B 5)]) rfl rfl ?_
      refine x_iload_n dX3_drawSeen_189 rfl ?_
      refine x_aload_n dX3_drawSeen_190 rfl ?_
      refine x_aload_n dX3_drawSeen_191 rfl ?_
      refine x_get 6 dX3_drawSeen_192 hS.1 rfl (by decide) (by decide +kernel) rfl ?_
      refine x_iload_n dX3_drawSeen_195 rfl ?_
      refine x_iald dX3_drawSeen_196 hS.2.2.1 hi ?_
      refine x_aload_n dX3_drawSeen_197 rfl ?_
      refine x_get 7 dX3_drawSeen_198 hS.1 rfl (by decide) (by decide +kernel) rfl ?_
      refine x_iload_n dX3_drawSeen_201 rfl ?_
      refine x_iald dX3_drawSeen_202 hS.2.2.2.1 hi ?_
      refine x_iadd dX3_drawSeen_203 ?_
      refine x_iload_n dX3_drawSeen_204 rfl ?_
      refine x_callV (M' := mX3_endOf) (mc' := 0) (ms' := 0) (As := [.int ((((vrow V r) 2) (Int32.toNatClampNeg i)) + (((vrow V r) 3) (Int32.toNatClampNeg i))), .int (sPy p I (vrow V r) i)]) dX3_drawSeen_205 gX3_drawSeen_X3_endOf okX3_endOf rfl rfl hS.1 rfl (Nat.le_of_ble_eq_true rfl) (Nat.le_of_ble_eq_true rfl) (Nat.le_refl _) (Nat.le_refl _) (Nat.le_refl _) ?_
      refine kX3_endOf hP hS ?_
      show xV _ _ _ _ _ _ _ _ _ _ _ _ _
      refine x_ls (st' := [.int (sE2 p I (vrow V r) i), .int (sPx p I (vrow V r) i), .int (sE1 p I (vrow V r) i), .int (sPx p I (vrow V r) i), .ref (B 5)]) rfl rfl ?_
      refine x_iload_n dX3_drawSeen_208 rfl ?_
      refine x_callV (M' := mX4_line) (mc' := 0) (ms' := 0) (As := [.int (sPx p I (vrow V r) i), .int (sE1 p I (vrow V r) i), .int (sPx p I (vrow V r) i), .int (sE2 p I (vrow V r) i), .int i]) dX3_drawSeen_209 gX3_drawSeen_X4_line okX4_line rfl rfl hS.2.2.2.2.2.1 rfl (Nat.le_of_ble_eq_true rfl) (Nat.le_of_ble_eq_true rfl) (Nat.le_refl _) (Nat.le_refl _) (Nat.le_refl _) ?_
      refine kX4_line hP hS hB hn hok.2.2.2.2.2 (fun h_209 hS_209 hF_209 => ?_)
      have hP := hP.fr hF_209 hn
      have hS := hS_209
      show xV _ _ _ _ _ _ _ _ _ _ _ _ _
      exact x_vret dX3_drawSeen_212 rfl (hQ _ (by unfold FX3_drawSeen; rw [if_neg hs_61_0, if_neg hs_61_1, if_neg hs_61_2, if_neg hs_61_3]; exact hS) hF_209)
    refine x_if_eq (tgt := 54) dX3_drawSeen_41 (by decide) (fun hc_41 => ?_) (fun hc_41 => ?_)
    · refine x_iload_n dX3_drawSeen_54 rfl ?_
      exact x_ls rfl (by first | rfl | (rw [if_pos hc_41] <;> rfl) | (simp only [if_pos hc_41]; rfl) | (simp only [if_pos hc_41])) J55
    · refine x_aload_n dX3_drawSeen_44 rfl ?_
      refine x_iload_n dX3_drawSeen_45 rfl ?_
      refine x_iconst (v := 1) dX3_drawSeen_46 (by decide) ?_
      refine x_isub dX3_drawSeen_47 ?_
      refine x_callV (M' := mX3_dotUpwards) (mc' := 0) (ms' := 0) (As := [.int (i - (1 : Int32))]) dX3_drawSeen_48 gX3_drawSeen_X3_dotUpwards okX3_dotUpwards rfl rfl hS.1 rfl (Nat.le_of_ble_eq_true rfl) (Nat.le_of_ble_eq_true rfl) (Nat.le_refl _) (Nat.le_refl _) (Nat.le_refl _) ?_
      refine kX3_dotUpwards hP hS hz ?_
      show xV _ _ _ _ _ _ _ _ _ _ _ _ _
      refine x_goto (tgt := 55) dX3_drawSeen_51 (by decide) ?_
      exact x_ls rfl (by first | rfl | (rw [if_neg hc_41] <;> rfl) | (simp only [if_neg hc_41]; rfl) | (simp only [if_neg hc_41])) J55
  refine x_if_eq (tgt := 36) dX3_drawSeen_23 (by decide) (fun hc_23 => ?_) (fun hc_23 => ?_)
  · refine x_iload_n dX3_drawSeen_36 rfl ?_
    exact x_ls rfl (by first | rfl | (rw [if_pos hc_23] <;> rfl) | (simp only [if_pos hc_23]; rfl) | (simp only [if_pos hc_23])) J37
  · refine x_aload_n dX3_drawSeen_26 rfl ?_
    refine x_iload_n dX3_drawSeen_27 rfl ?_
    refine x_iconst (v := 1) dX3_drawSeen_28 (by decide) ?_
    refine x_isub dX3_drawSeen_29 ?_
    refine x_callV (M' := mX3_dotAcross) (mc' := 0) (ms' := 0) (As := [.int (i - (1 : Int32))]) dX3_drawSeen_30 gX3_drawSeen_X3_dotAcross okX3_dotAcross rfl rfl hS.1 rfl (Nat.le_of_ble_eq_true rfl) (Nat.le_of_ble_eq_true rfl) (Nat.le_refl _) (Nat.le_refl _) (Nat.le_refl _) ?_
    refine kX3_dotAcross hP hS hz ?_
    show xV _ _ _ _ _ _ _ _ _ _ _ _ _
    refine x_goto (tgt := 37) dX3_drawSeen_33 (by decide) ?_
    exact x_ls rfl (by first | rfl | (rw [if_neg hc_23] <;> rfl) | (simp only [if_neg hc_23]; rfl) | (simp only [if_neg hc_23])) J37
def LX3_draw (p : xPv) (I : xSi) (V : Nat → Nat → Int32) : Nat → Nat → xR2 → xR2
  | 0, _, r => r
  | n9 + 1, j, r => LX3_draw p I V n9 (j + 1) (if FX3_isSeen p I V (nI j) = 0 then r else FX3_drawSeen p I V r (nI j))
/-- what a series draws -/
def FX3_draw (p : xPv) (I : xSi) (V : Nat → Nat → Int32) : xR2 := LX3_draw p I V (I.2.2.2.1).toNatClampNeg 0 xR0
/-- but for the object and the rows of what is drawn nothing has changed -/
def xfr0 (B : Nat → Nat) (h h' : xH) : Prop := ∀ a : Nat, a ≠ B 0 → a ≠ B 6 → a ≠ B 7 → h' a = h a
theorem pt_vrow {I : xSi} {V : Nat → Nat → Int32} {r : xR2} {i : Int32} : FX3_isPoint I (vrow V r) i = FX3_isPoint I V i := rfl
theorem seen_vrow {p : xPv} {I : xSi} {V : Nat → Nat → Int32} {r : xR2} {i : Int32} : FX3_isSeen p I (vrow V r) i = FX3_isSeen p I V i := rfl
theorem ax_vrow {p : xPv} {I : xSi} {V : Nat → Nat → Int32} {r : xR2} {i : Int32} : FX3_dotAcross p I (vrow V r) i = FX3_dotAcross p I V i := rfl
theorem up_vrow {p : xPv} {I : xSi} {V : Nat → Nat → Int32} {r : xR2} {i : Int32} : FX3_dotUpwards p I (vrow V r) i = FX3_dotUpwards p I V i := rfl
theorem px_vrow {p : xPv} {I : xSi} {V : Nat → Nat → Int32} {r : xR2} {i : Int32} : sPx p I (vrow V r) i = sPx p I V i := rfl
theorem py_vrow {p : xPv} {I : xSi} {V : Nat → Nat → Int32} {r : xR2} {i : Int32} : sPy p I (vrow V r) i = sPy p I V i := rfl
theorem bx_vrow {p : xPv} {I : xSi} {V : Nat → Nat → Int32} {r : xR2} {i : Int32} : sBx p I (vrow V r) i = sBx p I V i := by unfold sBx; rw [seen_vrow, px_vrow, ax_vrow]
theorem by_vrow {p : xPv} {I : xSi} {V : Nat → Nat → Int32} {r : xR2} {i : Int32} : sBy p I (vrow V r) i = sBy p I V i := by unfold sBy; rw [seen_vrow, py_vrow, up_vrow]
theorem e1_vrow {p : xPv} {I : xSi} {V : Nat → Nat → Int32} {r : xR2} {i : Int32} : sE1 p I (vrow V r) i = sE1 p I V i := rfl
theorem e2_vrow {p : xPv} {I : xSi} {V : Nat → Nat → Int32} {r : xR2} {i : Int32} : sE2 p I (vrow V r) i = sE2 p I V i := rfl
theorem drOk_vrow {p : xPv} {I : xSi} {V : Nat → Nat → Int32} {r : xR2} {i : Int32} : drOk p I (vrow V r) i = drOk p I V i := by unfold drOk; rw [px_vrow, py_vrow, bx_vrow, by_vrow, e1_vrow, e2_vrow]
theorem dr_vrow {p : xPv} {I : xSi} {V : Nat → Nat → Int32} {r r9 : xR2} {i : Int32} : FX3_drawSeen p I (vrow V r) r9 i = FX3_drawSeen p I V r9 i := by unfold FX3_drawSeen; rw [px_vrow, py_vrow, bx_vrow, by_vrow, e1_vrow, e2_vrow]
theorem xseen_pt {p : xPv} {I : xSi} {V : Nat → Nat → Int32} {i : Int32} (h : ¬ FX3_isSeen p I V i = 0) : ¬ FX3_isPoint I V i = 0 := by
  intro q
  apply h
  unfold FX3_isSeen
  rw [if_pos q]
set_option maxHeartbeats 4000000 in
set_option maxRecDepth 100000 in
theorem kX3_drawIfStale {G : xG} {l : Launch} {d : Nat} {h : xH} {Q : Option Value → xH → Prop} {pg sx sy : Nat} {p : xPv} {B : Nat → Nat} {I : xSi} {V : Nat → Nat → Int32} (hP : xPg pg sx sy p h) (hS : xSer G B pg I V h) (hz : I.2.2.2.1 ≤ 24) (hB : ∀ {i j : Nat}, i ≠ j → B i ≠ B j) (hn : ∀ i, B i ≠ pg ∧ B i ≠ sx ∧ B i ≠ sy) (hok : ∀ j : Nat, j < (I.2.2.2.1).toNatClampNeg → ¬ FX3_isSeen p I V (nI j) = 0 → drOk p I V (nI j)) (hQ0 : I.2.2.2.2 = 0 → Q none h) (hQ1 : ¬ I.2.2.2.2 = 0 → (∀ h', xSer G B pg (I.1, I.2.1, I.2.2.1, I.2.2.2.1, 0) (vrow V (FX3_draw p I V)) h' → xfr0 B h h' → Q none h')) : xV G l mX3_drawIfStale (d + 4) 0 0 0 0 0 [.ref (B 0), xU] [] h Q := by
  have hN31 : (I.2.2.2.1).toNatClampNeg < 2 ^ 31 := xclamp_lt _
  have loop : (∀ h', xSer G B pg (I.1, I.2.1, I.2.2.1, I.2.2.2.1, 0) (vrow V (FX3_draw p I V)) h' → xfr0 B h h' → Q none h') → ∀ (n9 j : Nat) (r9 : xR2) (h1 : xH), j + n9 = (I.2.2.2.1).toNatClampNeg → LX3_draw p I V n9 j r9 = FX3_draw p I V → xPg pg sx sy p h1 → xSer G B pg I (vrow V r9) h1 → xfr B h h1 → xV G l mX3_drawIfStale (d + 4) 0 0 0 0 17 [.ref (B 0), .int (nI j)] [] h1 Q := by
    intro hQ n9
    clear hP hS hQ0 hQ1
    induction n9 with
    | zero =>
      intro j r9 h1 hj hf hP hS hF
      refine x_iload_n dX3_drawIfStale_17 rfl ?_
      refine x_aload_n dX3_drawIfStale_18 rfl ?_
      refine x_get 3 dX3_drawIfStale_19 hS.1 rfl (by decide) (by decide +kernel) rfl ?_
      refine x_icmp_ge (tgt := 44) dX3_drawIfStale_22 (by decide) (fun _ => ?_) (fun z9 => absurd (xge_b (by omega) (by omega)) z9)
      refine x_aload_n dX3_drawIfStale_44 rfl ?_
      refine x_iconst (v := 0) dX3_drawIfStale_45 (by decide) ?_
      refine x_put 4 dX3_drawIfStale_46 hS.1 rfl (by decide) (by decide +kernel) rfl rfl rfl rfl (Nat.le_of_ble_eq_true rfl) ?_
      rw [LX3_draw] at hf
      exact x_vret dX3_drawIfStale_49 rfl (hQ _ (hf ▸ hS.up0 (I' := (I.1, I.2.1, I.2.2.1, I.2.2.2.1, 0)) hB) (fun a e0 e6 e7 => (xup_n e0).trans (hF a e6 e7)))
    | succ n9 ih =>
      intro j r9 h1 hj hf hP hS hF
      refine x_iload_n dX3_drawIfStale_17 rfl ?_
      refine x_aload_n dX3_drawIfStale_18 rfl ?_
      refine x_get 3 dX3_drawIfStale_19 hS.1 rfl (by decide) (by decide +kernel) rfl ?_
      refine x_icmp_ge (tgt := 44) dX3_drawIfStale_22 (by decide) (fun z9 => absurd z9 (xlt_b (by omega))) (fun _ => ?_)
      rw [LX3_draw] at hf
      refine x_aload_n dX3_drawIfStale_25 rfl ?_
      refine x_iload_n dX3_drawIfStale_26 rfl ?_
      refine x_callV (M' := mX3_isSeen) (mc' := 0) (ms' := 0) (As := [.int (nI j)]) dX3_drawIfStale_27 gX3_drawIfStale_X3_isSeen okX3_isSeen rfl rfl hS.1 rfl (Nat.le_of_ble_eq_true rfl) (Nat.le_of_ble_eq_true rfl) (Nat.le_refl _) (Nat.le_refl _) (Nat.le_refl _) ?_
      refine kX3_isSeen hP hS hz ?_
      rw [seen_vrow]
      show xV _ _ _ _ _ _ _ _ _ _ _ _ _
      refine x_if_eq (tgt := 38) dX3_drawIfStale_30 (by decide) (fun hc_30 => ?_) (fun hc_30 => ?_)
      · refine x_iinc (v := 1) dX3_drawIfStale_38 rfl (by decide) (by decide) rfl ?_
        refine x_goto (tgt := 17) dX3_drawIfStale_41 (by decide) ?_
        refine xV.sub (L' := [.ref (B 0), .int (nI (j + 1))]) ⟨Or.inr rfl, Or.inr (congrArg Value.int (nI_1 j)), trivial⟩ (ih (j + 1) r9 h1 (by omega) (by rw [if_pos hc_30] at hf; exact hf) hP hS hF)
      · refine x_aload_n dX3_drawIfStale_33 rfl ?_
        refine x_iload_n dX3_drawIfStale_34 rfl ?_
        refine x_callV (M' := mX3_drawSeen) (mc' := 0) (ms' := 0) (As := [.int (nI j)]) dX3_drawIfStale_35 gX3_drawIfStale_X3_drawSeen okX3_drawSeen rfl rfl hS.1 rfl (Nat.le_of_ble_eq_true rfl) (Nat.le_of_ble_eq_true rfl) (Nat.le_refl _) (Nat.le_refl _) (Nat.le_refl _) ?_
        refine kX3_drawSeen hP hS hz hB hn (xpt_in hz (xseen_pt hc_30)) (by rw [drOk_vrow]; exact hok j (by omega) hc_30) (fun h9 hS9 hF9 => ?_)
        rw [dr_vrow] at hS9
        show xV _ _ _ _ _ _ _ _ _ _ _ _ _
        refine x_iinc (v := 1) dX3_drawIfStale_38 rfl (by decide) (by decide) rfl ?_
        refine x_goto (tgt := 17) dX3_drawIfStale_41 (by decide) ?_
        refine xV.sub (L' := [.ref (B 0), .int (nI (j + 1))]) ⟨Or.inr rfl, Or.inr (congrArg Value.int (nI_1 j)), trivial⟩ (ih (j + 1) _ h9 (by omega) (by rw [if_neg hc_30] at hf; exact hf) (hP.fr hF9 hn) hS9 (hF.tr hF9))
  refine x_aload_n dX3_drawIfStale_0 rfl ?_
  refine x_get 4 dX3_drawIfStale_1 hS.1 rfl (by decide) (by decide +kernel) rfl ?_
  refine x_if_ne (tgt := 8) dX3_drawIfStale_4 (by decide) (fun hc_4 => ?_) (fun hc_4 => ?_)
  · have hQ := hQ1 hc_4
    refine x_aload_n dX3_drawIfStale_8 rfl ?_
    refine x_get 10 dX3_drawIfStale_9 hS.1 rfl (by decide) (by decide +kernel) rfl ?_
    refine x_callV (M' := mX4_wipe) (mc' := 0) (ms' := 0) (As := []) dX3_drawIfStale_12 gX3_drawIfStale_X4_wipe okX4_wipe rfl rfl hS.2.2.2.2.2.1 rfl (Nat.le_of_ble_eq_true rfl) (Nat.le_of_ble_eq_true rfl) (Nat.le_refl _) (Nat.le_refl _) (Nat.le_refl _) ?_
    refine kX4_wipeA hS hB (fun h1 hS1 hF1 => ?_)
    show xV _ _ _ _ _ _ _ _ _ _ _ _ _
    refine x_iconst (v := 0) dX3_drawIfStale_15 (by decide) ?_
    refine x_istore_n dX3_drawIfStale_16 (by decide) rfl ?_
    refine xV.sub (L' := [.ref (B 0), .int (nI 0)]) ⟨Or.inr rfl, Or.inr (congrArg Value.int nI_0.symm), trivial⟩ (loop hQ (I.2.2.2.1).toNatClampNeg 0 xR0 h1 (by omega) rfl (hP.fr hF1 hn) hS1 hF1)
  · exact x_vret dX3_drawIfStale_7 rfl (hQ0 hc_4)
