theorem mp_inS {s : Int32} {j : Nat} (hs : vp_in s 6) (hj : j < 24) : vp_in ((24 * s) + nI j) 144 := by
  obtain ⟨k, hk, rfl⟩ := vp_in_of hs (by decide)
  exact mp_in hk hj
theorem mp_inS1 {s : Int32} {j : Nat} (hs : vp_in s 6) (hj : j < 24) (h : ¬ nI j = 0) : vp_in (((24 * s) + nI j) - 1) 144 := by
  obtain ⟨k, hk, rfl⟩ := vp_in_of hs (by decide)
  cases j with
  | zero => exact absurd rfl h
  | succ j =>
    rw [show (24 : Int32) = nI 24 from rfl, pk_mul, nI_add, show 24 * k + (j + 1) = (24 * k + j) + 1 by omega, nI_pred]
    exact vp_in_nI (by omega) (by decide)
theorem mpt_in {I : xMi} {V : Nat → Nat → Int32} {s q : Int32} (h6 : I.2.2.1.toInt ≤ 6) (h0 : 0 ≤ I.2.2.1.toInt) (hpt : ∀ j, j < 6 → 0 ≤ (V 11 j).toInt ∧ (V 11 j).toInt ≤ 24) (h : ¬ FX6_isPoint I V s q = 0) : vp_in ((24 * s) + q) 144 := by
  unfold FX6_isPoint at h
  by_cases hs : FX6_isSeries I V s = 0
  · rw [if_pos hs] at h; exact absurd rfl h
  · rw [if_neg hs] at h
    have hs6 := ser_in h6 h0 hs
    obtain ⟨k, hk, rfl⟩ := vp_in_of hs6 (by decide)
    rw [nI_clamp (by omega)] at h
    have hp := hpt k hk
    have hq : vp_in q 24 := by
      by_cases h3 : FX6_in q 0 (V 11 k - 1) = 0
      · rw [if_pos h3] at h; exact absurd rfl h
      · refine in_vp h3 ?_
        have e1 : (1 : Int32).toInt = 1 := rfl
        rw [Int32.toInt_sub, e1]
        have : ((V 11 k).toInt - 1).bmod (2 ^ 32) = (V 11 k).toInt - 1 := by
          rw [Int.bmod_def]; omega
        omega
    obtain ⟨j, hj, rfl⟩ := vp_in_of hq (by decide)
    exact mp_in hk hj
def FX6_about (I : xMi) (V : Nat → Nat → Int32) (s : Int32) (q : Int32) (w : Int32) : Int32 := (if (FX6_isPoint I V s q) = 0 then (-2000000000 : Int32) else (if ((V 15) (Int32.toNatClampNeg (((24 : Int32) * s) + q))) = 0 then (if w = 0 then ((V 12) (Int32.toNatClampNeg (((24 : Int32) * s) + q))) else (if w = 1 then ((V 13) (Int32.toNatClampNeg (((24 : Int32) * s) + q))) else (if w = 2 then ((V 14) (Int32.toNatClampNeg (((24 : Int32) * s) + q))) else (if w = 3 then (if (FX6_isSeen I V s q) = 0 then (-2000000000 : Int32) else (FX6_across I V s q)) else (if w = 4 then (if (FX6_isSeen I V s q) = 0 then (-2000000000 : Int32) else (FX6_upwards I V s q)) else (-2000000000 : Int32)))))) else (-2000000000 : Int32)))
set_option maxHeartbeats 4000000 in
set_option maxRecDepth 100000 in
theorem kX6_about {G : xG} {l : Launch} {d : Nat} {h : xH} {Q : Option Value → xH → Prop} {A : Nat → Nat} {I : xMi} {V : Nat → Nat → Int32} {s : Int32} {q : Int32} {w : Int32} (hM : xMod G A I V h) (h6 : I.2.2.1.toInt ≤ 6) (h0 : 0 ≤ I.2.2.1.toInt) (hdv : ∀ ax, vp_in ax 2 → ¬ (2 : Int64) * FX6_span I V ax = 0) (hpt : ∀ j, j < 6 → 0 ≤ (V 11 j).toInt ∧ (V 11 j).toInt ≤ 24)  (hQ : Q (some (.int (FX6_about I V s q w))) h) : xV G l mX6_about (d + 6) 0 0 0 0 0 [.ref (A 0), .int s, .int q, .int w] [] h Q := by
  refine x_aload_n dX6_about_0 rfl ?_
  refine x_iload_n dX6_about_1 rfl ?_
  refine x_iload_n dX6_about_2 rfl ?_
  refine x_callV (M' := mX6_isPoint) (mc' := 0) (ms' := 0) (As := [.int s, .int q]) dX6_about_3 gX6_about_X6_isPoint okX6_isPoint rfl rfl hM.1 rfl (Nat.le_of_ble_eq_true rfl) (Nat.le_of_ble_eq_true rfl) (Nat.le_refl _) (Nat.le_refl _) (Nat.le_refl _) ?_
  refine kX6_isPoint hM h6 h0 ?_
  show xV _ _ _ _ _ _ _ _ _ _ _ _ _
  refine x_if_eq (tgt := 23) dX6_about_6 (by decide) (fun hc_6 => ?_) (fun hc_6 => ?_)
  · refine x_ldc (v := (-2000000000)) dX6_about_23 (by decide +kernel) ?_
    exact x_iret dX6_about_25 rfl (xri (by unfold FX6_about; rw [if_pos hc_6]) hQ)
  · refine x_aload_n dX6_about_9 rfl ?_
    refine x_get 15 dX6_about_10 hM.1 rfl (by decide) (by decide +kernel) rfl ?_
    refine x_bipush (v := 24) dX6_about_13 (by decide) ?_
    refine x_iload_n dX6_about_15 rfl ?_
    refine x_imul dX6_about_16 ?_
    refine x_iload_n dX6_about_17 rfl ?_
    refine x_iadd dX6_about_18 ?_
    refine x_zald dX6_about_19 hM.z (mpt_in h6 h0 hpt hc_6) ?_
    refine x_if_eq (tgt := 26) dX6_about_20 (by decide) (fun hc_20 => ?_) (fun hc_20 => ?_)
    · refine x_iload_n dX6_about_26 rfl ?_
      by_cases hs_27_0 : w = 0
      · refine x_tcase hs_27_0 (tgt := 60) (off := 33) dX6_about_27 (by decide) (by decide) (by decide) (by decide) ?_
        refine x_aload_n dX6_about_60 rfl ?_
        refine x_get 12 dX6_about_61 hM.1 rfl (by decide) (by decide +kernel) rfl ?_
        refine x_bipush (v := 24) dX6_about_64 (by decide) ?_
        refine x_iload_n dX6_about_66 rfl ?_
        refine x_imul dX6_about_67 ?_
        refine x_iload_n dX6_about_68 rfl ?_
        refine x_iadd dX6_about_69 ?_
        refine x_iald dX6_about_70 (hM.r 12 (by decide) (by decide)) (mpt_in h6 h0 hpt hc_6) ?_
        exact x_iret dX6_about_71 rfl (xri (by unfold FX6_about; rw [if_neg hc_6, if_pos hc_20, if_pos hs_27_0]) hQ)
      by_cases hs_27_1 : w = 1
      · refine x_tcase hs_27_1 (tgt := 72) (off := 45) dX6_about_27 (by decide) (by decide) (by decide) (by decide) ?_
        refine x_aload_n dX6_about_72 rfl ?_
        refine x_get 13 dX6_about_73 hM.1 rfl (by decide) (by decide +kernel) rfl ?_
        refine x_bipush (v := 24) dX6_about_76 (by decide) ?_
        refine x_iload_n dX6_about_78 rfl ?_
        refine x_imul dX6_about_79 ?_
        refine x_iload_n dX6_about_80 rfl ?_
        refine x_iadd dX6_about_81 ?_
        refine x_iald dX6_about_82 (hM.r 13 (by decide) (by decide)) (mpt_in h6 h0 hpt hc_6) ?_
        exact x_iret dX6_about_83 rfl (xri (by unfold FX6_about; rw [if_neg hc_6, if_pos hc_20, if_neg hs_27_0, if_pos hs_27_1]) hQ)
      by_cases hs_27_2 : w = 2
      · refine x_tcase hs_27_2 (tgt := 84) (off := 57) dX6_about_27 (by decide) (by decide) (by decide) (by decide) ?_
        refine x_aload_n dX6_about_84 rfl ?_
        refine x_get 14 dX6_about_85 hM.1 rfl (by decide) (by decide +kernel) rfl ?_
        refine x_bipush (v := 24) dX6_about_88 (by decide) ?_
        refine x_iload_n dX6_about_90 rfl ?_
        refine x_imul dX6_about_91 ?_
        refine x_iload_n dX6_about_92 rfl ?_
        refine x_iadd dX6_about_93 ?_
        refine x_iald dX6_about_94 (hM.r 14 (by decide) (by decide)) (mpt_in h6 h0 hpt hc_6) ?_
        exact x_iret dX6_about_95 rfl (xri (by unfold FX6_about; rw [if_neg hc_6, if_pos hc_20, if_neg hs_27_0, if_neg hs_27_1, if_pos hs_27_2]) hQ)
      by_cases hs_27_3 : w = 3
      · refine x_tcase hs_27_3 (tgt := 96) (off := 69) dX6_about_27 (by decide) (by decide) (by decide) (by decide) ?_
        refine x_aload_n dX6_about_96 rfl ?_
        refine x_iload_n dX6_about_97 rfl ?_
        refine x_iload_n dX6_about_98 rfl ?_
        refine x_callV (M' := mX6_isSeen) (mc' := 0) (ms' := 0) (As := [.int s, .int q]) dX6_about_99 gX6_about_X6_isSeen okX6_isSeen rfl rfl hM.1 rfl (Nat.le_of_ble_eq_true rfl) (Nat.le_of_ble_eq_true rfl) (Nat.le_refl _) (Nat.le_refl _) (Nat.le_refl _) ?_
        refine kX6_isSeen hM hdv (fun _ => (mpt_in h6 h0 hpt hc_6)) ?_
        show xV _ _ _ _ _ _ _ _ _ _ _ _ _
        have J116 : xV G l mX6_about (d + 6) 0 0 0 0 116 [.ref (A 0), .int s, .int q, .int w] [.int (if (FX6_isSeen I V s q) = 0 then (-2000000000 : Int32) else (FX6_across I V s q))] h Q := by
          exact x_iret dX6_about_116 rfl (xri (by unfold FX6_about; rw [if_neg hc_6, if_pos hc_20, if_neg hs_27_0, if_neg hs_27_1, if_neg hs_27_2, if_pos hs_27_3]) hQ)
        refine x_if_eq (tgt := 114) dX6_about_102 (by decide) (fun hc_102 => ?_) (fun hc_102 => ?_)
        · refine x_ldc (v := (-2000000000)) dX6_about_114 (by decide +kernel) ?_
          exact x_ls rfl (by first | rfl | (rw [if_pos hc_102] <;> rfl) | (simp only [if_pos hc_102]; rfl) | (simp only [if_pos hc_102])) J116
        · refine x_aload_n dX6_about_105 rfl ?_
          refine x_iload_n dX6_about_106 rfl ?_
          refine x_iload_n dX6_about_107 rfl ?_
          refine x_callV (M' := mX6_across) (mc' := 0) (ms' := 0) (As := [.int s, .int q]) dX6_about_108 gX6_about_X6_across okX6_across rfl rfl hM.1 rfl (Nat.le_of_ble_eq_true rfl) (Nat.le_of_ble_eq_true rfl) (Nat.le_refl _) (Nat.le_refl _) (Nat.le_refl _) ?_
          refine kX6_across hM hdv (mpt_in h6 h0 hpt hc_6) ?_
          show xV _ _ _ _ _ _ _ _ _ _ _ _ _
          refine x_goto (tgt := 116) dX6_about_111 (by decide) ?_
          exact x_ls rfl (by first | rfl | (rw [if_neg hc_102] <;> rfl) | (simp only [if_neg hc_102]; rfl) | (simp only [if_neg hc_102])) J116
      by_cases hs_27_4 : w = 4
      · refine x_tcase hs_27_4 (tgt := 117) (off := 90) dX6_about_27 (by decide) (by decide) (by decide) (by decide) ?_
        refine x_aload_n dX6_about_117 rfl ?_
        refine x_iload_n dX6_about_118 rfl ?_
        refine x_iload_n dX6_about_119 rfl ?_
        refine x_callV (M' := mX6_isSeen) (mc' := 0) (ms' := 0) (As := [.int s, .int q]) dX6_about_120 gX6_about_X6_isSeen okX6_isSeen rfl rfl hM.1 rfl (Nat.le_of_ble_eq_true rfl) (Nat.le_of_ble_eq_true rfl) (Nat.le_refl _) (Nat.le_refl _) (Nat.le_refl _) ?_
        refine kX6_isSeen hM hdv (fun _ => (mpt_in h6 h0 hpt hc_6)) ?_
        show xV _ _ _ _ _ _ _ _ _ _ _ _ _
        have J137 : xV G l mX6_about (d + 6) 0 0 0 0 137 [.ref (A 0), .int s, .int q, .int w] [.int (if (FX6_isSeen I V s q) = 0 then (-2000000000 : Int32) else (FX6_upwards I V s q))] h Q := by
          exact x_iret dX6_about_137 rfl (xri (by unfold FX6_about; rw [if_neg hc_6, if_pos hc_20, if_neg hs_27_0, if_neg hs_27_1, if_neg hs_27_2, if_neg hs_27_3, if_pos hs_27_4]) hQ)
        refine x_if_eq (tgt := 135) dX6_about_123 (by decide) (fun hc_123 => ?_) (fun hc_123 => ?_)
        · refine x_ldc (v := (-2000000000)) dX6_about_135 (by decide +kernel) ?_
          exact x_ls rfl (by first | rfl | (rw [if_pos hc_123] <;> rfl) | (simp only [if_pos hc_123]; rfl) | (simp only [if_pos hc_123])) J137
        · refine x_aload_n dX6_about_126 rfl ?_
          refine x_iload_n dX6_about_127 rfl ?_
          refine x_iload_n dX6_about_128 rfl ?_
          refine x_callV (M' := mX6_upwards) (mc' := 0) (ms' := 0) (As := [.int s, .int q]) dX6_about_129 gX6_about_X6_upwards okX6_upwards rfl rfl hM.1 rfl (Nat.le_of_ble_eq_true rfl) (Nat.le_of_ble_eq_true rfl) (Nat.le_refl _) (Nat.le_refl _) (Nat.le_refl _) ?_
          refine kX6_upwards hM hdv (mpt_in h6 h0 hpt hc_6) ?_
          show xV _ _ _ _ _ _ _ _ _ _ _ _ _
          refine x_goto (tgt := 137) dX6_about_132 (by decide) ?_
          exact x_ls rfl (by first | rfl | (rw [if_neg hc_123] <;> rfl) | (simp only [if_neg hc_123]; rfl) | (simp only [if_neg hc_123])) J137
      have z_27_0 : Int32.toInt (w) ≠ 0 := fun q => hs_27_0 (Int32.toInt_inj.mp (by rw [q]; rfl))
      have z_27_1 : Int32.toInt (w) ≠ 1 := fun q => hs_27_1 (Int32.toInt_inj.mp (by rw [q]; rfl))
      have z_27_2 : Int32.toInt (w) ≠ 2 := fun q => hs_27_2 (Int32.toInt_inj.mp (by rw [q]; rfl))
      have z_27_3 : Int32.toInt (w) ≠ 3 := fun q => hs_27_3 (Int32.toInt_inj.mp (by rw [q]; rfl))
      have z_27_4 : Int32.toInt (w) ≠ 4 := fun q => hs_27_4 (Int32.toInt_inj.mp (by rw [q]; rfl))
      refine x_tout (tgt := 138) dX6_about_27 (by omega) (by decide) ?_
      refine x_ldc (v := (-2000000000)) dX6_about_138 (by decide +kernel) ?_
      exact x_iret dX6_about_140 rfl (xri (by unfold FX6_about; rw [if_neg hc_6, if_pos hc_20, if_neg hs_27_0, if_neg hs_27_1, if_neg hs_27_2, if_neg hs_27_3, if_neg hs_27_4]) hQ)
    · refine x_ldc (v := (-2000000000)) dX6_about_23 (by decide +kernel) ?_
      exact x_iret dX6_about_25 rfl (xri (by unfold FX6_about; rw [if_neg hc_6, if_neg hc_20]) hQ)
def LX6_cnt (I : xMi) (V : Nat → Nat → Int32) (s : Int32) : Nat → Nat → Int32 → Int32 → Int32 → Int32 × Int32 × Int32
  | 0, _, g1, g2, g3 => (g1, g2, g3)
  | n9 + 1, j, g1, g2, g3 => LX6_cnt I V s n9 (j + 1) (g1 + (if ((V 15) (Int32.toNatClampNeg (((24 : Int32) * s) + (nI j)))) = 0 then (0 : Int32) else (1 : Int32))) (g2 + (if ((V 15) (Int32.toNatClampNeg (((24 : Int32) * s) + (nI j)))) = 0 then (if (nI j) = 0 then (1 : Int32) else (if ((V 15) (Int32.toNatClampNeg ((((24 : Int32) * s) + (nI j)) - (1 : Int32)))) = 0 then (0 : Int32) else (1 : Int32))) else (0 : Int32))) (g3 + (if (FX6_isSeen I V s (nI j)) = 0 then (0 : Int32) else (1 : Int32)))
def FX6_cnt (I : xMi) (V : Nat → Nat → Int32) (s : Int32) : Int32 × Int32 × Int32 := LX6_cnt I V s (V 11 (Int32.toNatClampNeg s)).toNatClampNeg 0 0 0 0
def LX6_hits (f : Nat → Int32) (s : Int32) : Nat → Nat → Int32 → Int32
  | 0, _, a => a
  | n9 + 1, j, a => LX6_hits f s n9 (j + 1) (a + (if f (Int32.toNatClampNeg ((640 * s) + nI j)) = 0 then 0 else 1))
def FX6_hits (I : xMi) (r : xR2) (s : Int32) : Int32 := LX6_hits r.2 s (I.1 * I.2.1).toNatClampNeg 0 0
set_option maxHeartbeats 4000000 in
set_option maxRecDepth 100000 in
theorem kX6_count {G : xG} {l : Launch} {d : Nat} {h : xH} {Q : Option Value → xH → Prop} {A : Nat → Nat} {I : xMi} {V : Nat → Nat → Int32} {s w : Int32} (hM : xMod G A I V h) (hA : ∀ {i j : Nat}, i ≠ j → A i ≠ A j) (h6 : I.2.2.1.toInt ≤ 6) (h0 : 0 ≤ I.2.2.1.toInt) (hdv : ∀ ax, vp_in ax 2 → ¬ (2 : Int64) * FX6_span I V ax = 0) (hpt : ∀ j, j < 6 → 0 ≤ (V 11 j).toInt ∧ (V 11 j).toInt ≤ 24) (hok : ∀ j, j < (I.2.2.1).toNatClampNeg → ∀ i, i < (V 11 j).toNatClampNeg → ¬ FX6_isSeen (mdI I) V (nI j) (nI i) = 0 → mdrOk (mdI I) V (nI j) (nI i)) (hfr : ¬ I.2.2.2.2 = 0 → I.2.2.2.2 = 1 ∧ FX6_draws I V = (V 23, V 24)) (hcr : (I.1 * I.2.1).toNatClampNeg ≤ 640) (hQ : (if (FX6_isSeries I V s) = 0 then Q (some (.int (-1 : Int32))) h else (if (FX6_in w (0 : Int32) (4 : Int32)) = 0 then Q (some (.int (-1 : Int32))) h else (if (4 : Int32) ≤ w then (∀ h', xMod G A (mdI I) (vrM V (FX6_draws I V)) h' → xfM A h h' → Q (some (.int (FX6_hits I (FX6_draws I V) s))) h') else Q (some (.int (if w = 0 then ((V 11) (Int32.toNatClampNeg s)) else (if w = (1 : Int32) then (FX6_cnt I V s).1 else (if w = (2 : Int32) then (FX6_cnt I V s).2.1 else (FX6_cnt I V s).2.2))))) h)))) : xV G l mX6_count (d + 8) 0 0 0 0 0 [.ref (A 0), .int s, .int w, xU, xU, xU, xU, xU] [] h Q := by
  have p24 : vp_in s 6 → (V 11 (Int32.toNatClampNeg s)).toNatClampNeg ≤ 24 := by
    intro hs
    obtain ⟨k, hk, rfl⟩ := vp_in_of hs (by decide)
    rw [nI_clamp (by omega)]
    have := hpt k hk
    unfold Int32.toNatClampNeg
    omega
  have first : vp_in s 6 → ∀ (n9 j : Nat) (g1 g2 g3 : Int32), j + n9 = (V 11 (Int32.toNatClampNeg s)).toNatClampNeg → xV G l mX6_count (d + 8) 0 0 0 0 131 [.ref (A 0), .int s, .int w, .int (LX6_cnt I V s n9 j g1 g2 g3).1, .int (LX6_cnt I V s n9 j g1 g2 g3).2.1, .int (LX6_cnt I V s n9 j g1 g2 g3).2.2, xU, xU] [] h Q → xV G l mX6_count (d + 8) 0 0 0 0 30 [.ref (A 0), .int s, .int w, .int g1, .int g2, .int g3, .int (nI j), xU] [] h Q := by
    intro hs n9
    have hp24 := p24 hs
    induction n9 with
    | zero =>
      intro j g1 g2 g3 hj hk
      rw [LX6_cnt] at hk
      refine x_iload dX6_count_30 rfl ?_
      refine x_aload_n dX6_count_32 rfl ?_
      refine x_get 11 dX6_count_33 hM.1 rfl (by decide) (by decide +kernel) rfl ?_
      refine x_iload_n dX6_count_36 rfl ?_
      refine x_iald dX6_count_37 (hM.r 11 (by decide) (by decide)) hs ?_
      refine x_icmp_ge (tgt := 131) dX6_count_38 (by decide) (fun _ => ?_) (fun z9 => absurd (xge_b (by omega) (by omega)) z9)
      refine xV.sub (L' := [.ref (A 0), .int s, .int w, .int g1, .int g2, .int g3, xU, xU]) ⟨Or.inr rfl, Or.inr rfl, Or.inr rfl, Or.inr rfl, Or.inr rfl, Or.inr rfl, Or.inl rfl, Or.inl rfl, trivial⟩ hk
    | succ n9 ih =>
      intro j g1 g2 g3 hj hk
      rw [LX6_cnt] at hk
      refine x_iload dX6_count_30 rfl ?_
      refine x_aload_n dX6_count_32 rfl ?_
      refine x_get 11 dX6_count_33 hM.1 rfl (by decide) (by decide +kernel) rfl ?_
      refine x_iload_n dX6_count_36 rfl ?_
      refine x_iald dX6_count_37 (hM.r 11 (by decide) (by decide)) hs ?_
      refine x_icmp_ge (tgt := 131) dX6_count_38 (by decide) (fun z9 => absurd z9 (xlt_b (by omega))) (fun _ => ?_)
      refine x_aload_n dX6_count_41 rfl ?_
      refine x_get 15 dX6_count_42 hM.1 rfl (by decide) (by decide +kernel) rfl ?_
      refine x_bipush (v := 24) dX6_count_45 (by decide) ?_
      refine x_iload_n dX6_count_47 rfl ?_
      refine x_imul dX6_count_48 ?_
      refine x_iload dX6_count_49 rfl ?_
      refine x_iadd dX6_count_51 ?_
      refine x_zald dX6_count_52 hM.z (mp_inS hs (by omega)) ?_
      refine x_istore dX6_count_53 (by decide) rfl ?_
      refine x_iload_n dX6_count_55 rfl ?_
      refine x_iload dX6_count_56 rfl ?_
      have J66 : xV G l mX6_count (d + 8) 0 0 0 0 66 [.ref (A 0), .int s, .int w, .int g1, .int g2, .int g3, .int (nI j), .int ((V 15) (Int32.toNatClampNeg (((24 : Int32) * s) + (nI j))))] [.int (if ((V 15) (Int32.toNatClampNeg (((24 : Int32) * s) + (nI j)))) = 0 then (0 : Int32) else (1 : Int32)), .int g1] h Q := by
        refine x_iadd dX6_count_66 ?_
        refine x_istore_n dX6_count_67 (by decide) rfl ?_
        refine x_iload dX6_count_68 rfl ?_
        refine x_iload dX6_count_70 rfl ?_
        have J102 : xV G l mX6_count (d + 8) 0 0 0 0 102 [.ref (A 0), .int s, .int w, .int (g1 + (if ((V 15) (Int32.toNatClampNeg (((24 : Int32) * s) + (nI j)))) = 0 then (0 : Int32) else (1 : Int32))), .int g2, .int g3, .int (nI j), .int ((V 15) (Int32.toNatClampNeg (((24 : Int32) * s) + (nI j))))] [.int (if ((V 15) (Int32.toNatClampNeg (((24 : Int32) * s) + (nI j)))) = 0 then (if (nI j) = 0 then (1 : Int32) else (if ((V 15) (Int32.toNatClampNeg ((((24 : Int32) * s) + (nI j)) - (1 : Int32)))) = 0 then (0 : Int32) else (1 : Int32))) else (0 : Int32)), .int g2] h Q := by
          refine x_iadd dX6_count_102 ?_
          refine x_istore dX6_count_103 (by decide) rfl ?_
          refine x_iload dX6_count_105 rfl ?_
          refine x_aload_n dX6_count_107 rfl ?_
          refine x_iload_n dX6_count_108 rfl ?_
          refine x_iload dX6_count_109 rfl ?_
          refine x_callV (M' := mX6_isSeen) (mc' := 0) (ms' := 0) (As := [.int s, .int (nI j)]) dX6_count_111 gX6_count_X6_isSeen okX6_isSeen rfl rfl hM.1 rfl (Nat.le_of_ble_eq_true rfl) (Nat.le_of_ble_eq_true rfl) (Nat.le_refl _) (Nat.le_refl _) (Nat.le_refl _) ?_
          refine kX6_isSeen hM hdv (fun _ => (mp_inS hs (by omega))) ?_
          show xV _ _ _ _ _ _ _ _ _ _ _ _ _
          have J122 : xV G l mX6_count (d + 8) 0 0 0 0 122 [.ref (A 0), .int s, .int w, .int (g1 + (if ((V 15) (Int32.toNatClampNeg (((24 : Int32) * s) + (nI j)))) = 0 then (0 : Int32) else (1 : Int32))), .int (g2 + (if ((V 15) (Int32.toNatClampNeg (((24 : Int32) * s) + (nI j)))) = 0 then (if (nI j) = 0 then (1 : Int32) else (if ((V 15) (Int32.toNatClampNeg ((((24 : Int32) * s) + (nI j)) - (1 : Int32)))) = 0 then (0 : Int32) else (1 : Int32))) else (0 : Int32))), .int g3, .int (nI j), .int ((V 15) (Int32.toNatClampNeg (((24 : Int32) * s) + (nI j))))] [.int (if (FX6_isSeen I V s (nI j)) = 0 then (0 : Int32) else (1 : Int32)), .int g3] h Q := by
            refine x_iadd dX6_count_122 ?_
            refine x_istore dX6_count_123 (by decide) rfl ?_
            refine x_iinc (v := 1) dX6_count_125 rfl (by decide) (by decide) rfl ?_
            refine x_goto (tgt := 30) dX6_count_128 (by decide) ?_
            refine xV.sub (L' := [.ref (A 0), .int s, .int w, .int (g1 + (if ((V 15) (Int32.toNatClampNeg (((24 : Int32) * s) + (nI j)))) = 0 then (0 : Int32) else (1 : Int32))), .int (g2 + (if ((V 15) (Int32.toNatClampNeg (((24 : Int32) * s) + (nI j)))) = 0 then (if (nI j) = 0 then (1 : Int32) else (if ((V 15) (Int32.toNatClampNeg ((((24 : Int32) * s) + (nI j)) - (1 : Int32)))) = 0 then (0 : Int32) else (1 : Int32))) else (0 : Int32))), .int (g3 + (if (FX6_isSeen I V s (nI j)) = 0 then (0 : Int32) else (1 : Int32))), .int (nI (j + 1)), xU]) ⟨Or.inr rfl, Or.inr rfl, Or.inr rfl, Or.inr rfl, Or.inr rfl, Or.inr rfl, Or.inr (congrArg Value.int (nI_1 j)), Or.inl rfl, trivial⟩ (ih (j + 1) _ _ _ (by omega) hk)
          refine x_if_eq (tgt := 121) dX6_count_114 (by decide) (fun hc_114 => ?_) (fun hc_114 => ?_)
          · refine x_iconst (v := 0) dX6_count_121 (by decide) ?_
            exact x_ls rfl (by first | rfl | (rw [if_pos hc_114] <;> rfl) | (simp only [if_pos hc_114]; rfl) | (simp only [if_pos hc_114])) J122
          · refine x_iconst (v := 1) dX6_count_117 (by decide) ?_
            refine x_goto (tgt := 122) dX6_count_118 (by decide) ?_
            exact x_ls rfl (by first | rfl | (rw [if_neg hc_114] <;> rfl) | (simp only [if_neg hc_114]; rfl) | (simp only [if_neg hc_114])) J122
        refine x_if_ne (tgt := 101) dX6_count_72 (by decide) (fun hc_72 => ?_) (fun hc_72 => ?_)
        · refine x_iconst (v := 0) dX6_count_101 (by decide) ?_
          exact x_ls rfl (by first | rfl | (rw [if_neg hc_72] <;> rfl) | (simp only [if_neg hc_72]; rfl) | (simp only [if_neg hc_72])) J102
        · refine x_iload dX6_count_75 rfl ?_
          refine x_if_eq (tgt := 97) dX6_count_77 (by decide) (fun hc_77 => ?_) (fun hc_77 => ?_)
          · refine x_iconst (v := 1) dX6_count_97 (by decide) ?_
            refine x_goto (tgt := 102) dX6_count_98 (by decide) ?_
            exact x_ls rfl (by first | rfl | (rw [if_pos hc_72, if_pos hc_77] <;> rfl) | (simp only [if_pos hc_72, if_pos hc_77]; rfl) | (simp only [if_pos hc_72, if_pos hc_77])) J102
          · refine x_aload_n dX6_count_80 rfl ?_
            refine x_get 15 dX6_count_81 hM.1 rfl (by decide) (by decide +kernel) rfl ?_
            refine x_bipush (v := 24) dX6_count_84 (by decide) ?_
            refine x_iload_n dX6_count_86 rfl ?_
            refine x_imul dX6_count_87 ?_
            refine x_iload dX6_count_88 rfl ?_
            refine x_iadd dX6_count_90 ?_
            refine x_iconst (v := 1) dX6_count_91 (by decide) ?_
            refine x_isub dX6_count_92 ?_
            refine x_zald dX6_count_93 hM.z (mp_inS1 hs (by omega) hc_77) ?_
            refine x_if_eq (tgt := 101) dX6_count_94 (by decide) (fun hc_94 => ?_) (fun hc_94 => ?_)
            · refine x_iconst (v := 0) dX6_count_101 (by decide) ?_
              exact x_ls rfl (by first | rfl | (rw [if_pos hc_72, if_neg hc_77, if_pos hc_94] <;> rfl) | (simp only [if_pos hc_72, if_neg hc_77, if_pos hc_94]; rfl) | (simp only [if_pos hc_72, if_neg hc_77, if_pos hc_94])) J102
            · refine x_iconst (v := 1) dX6_count_97 (by decide) ?_
              refine x_goto (tgt := 102) dX6_count_98 (by decide) ?_
              exact x_ls rfl (by first | rfl | (rw [if_pos hc_72, if_neg hc_77, if_neg hc_94] <;> rfl) | (simp only [if_pos hc_72, if_neg hc_77, if_neg hc_94]; rfl) | (simp only [if_pos hc_72, if_neg hc_77, if_neg hc_94])) J102
      refine x_if_eq (tgt := 65) dX6_count_58 (by decide) (fun hc_58 => ?_) (fun hc_58 => ?_)
      · refine x_iconst (v := 0) dX6_count_65 (by decide) ?_
        exact x_ls rfl (by first | rfl | (rw [if_pos hc_58] <;> rfl) | (simp only [if_pos hc_58]; rfl) | (simp only [if_pos hc_58])) J66
      · refine x_iconst (v := 1) dX6_count_61 (by decide) ?_
        refine x_goto (tgt := 66) dX6_count_62 (by decide) ?_
        exact x_ls rfl (by first | rfl | (rw [if_neg hc_58] <;> rfl) | (simp only [if_neg hc_58]; rfl) | (simp only [if_neg hc_58])) J66
  have second : vp_in s 6 → (∀ h', xMod G A (mdI I) (vrM V (FX6_draws I V)) h' → xfM A h h' → Q (some (.int (FX6_hits I (FX6_draws I V) s))) h') → ∀ (h1 : xH), xMod G A (mdI I) (vrM V (FX6_draws I V)) h1 → xfM A h h1 → ∀ (n9 j : Nat) (a : Int32), j + n9 = (I.1 * I.2.1).toNatClampNeg → LX6_hits (FX6_draws I V).2 s n9 j a = FX6_hits I (FX6_draws I V) s → xV G l mX6_count (d + 8) 0 0 0 0 181 [.ref (A 0), .int s, .int w, xU, xU, xU, .int a, .int (nI j)] [] h1 Q := by
    intro hs hQ2 h1 hM1 hF n9
    clear hM
    have hM := hM1
    induction n9 with
    | zero =>
      intro j a hj hf
      refine x_iload dX6_count_181 rfl ?_
      refine x_aload_n dX6_count_183 rfl ?_
      refine x_get 0 dX6_count_184 hM.1 rfl (by decide) (by decide +kernel) rfl ?_
      refine x_aload_n dX6_count_187 rfl ?_
      refine x_get 1 dX6_count_188 hM.1 rfl (by decide) (by decide +kernel) rfl ?_
      refine x_imul dX6_count_191 ?_
      refine x_icmp_ge (tgt := 227) dX6_count_192 (by decide) (fun _ => ?_) (fun z9 => absurd (xge_b (b := I.1 * I.2.1) (by omega) (by omega)) z9)
      refine x_iload dX6_count_227 rfl ?_
      rw [LX6_hits] at hf
      rw [← hf] at hQ2
      exact x_iret dX6_count_229 rfl (hQ2 h1 hM hF)
    | succ n9 ih =>
      intro j a hj hf
      refine x_iload dX6_count_181 rfl ?_
      refine x_aload_n dX6_count_183 rfl ?_
      refine x_get 0 dX6_count_184 hM.1 rfl (by decide) (by decide +kernel) rfl ?_
      refine x_aload_n dX6_count_187 rfl ?_
      refine x_get 1 dX6_count_188 hM.1 rfl (by decide) (by decide +kernel) rfl ?_
      refine x_imul dX6_count_191 ?_
      refine x_icmp_ge (tgt := 227) dX6_count_192 (by decide) (fun z9 => absurd z9 (xlt_b (b := I.1 * I.2.1) (by omega))) (fun _ => ?_)
      refine x_iload dX6_count_195 rfl ?_
      refine x_aload_n dX6_count_197 rfl ?_
      refine x_get 24 dX6_count_198 hM.1 rfl (by decide) (by decide +kernel) rfl ?_
      refine x_sipush (v := 640) dX6_count_201 (by decide) ?_
      refine x_iload_n dX6_count_204 rfl ?_
      refine x_imul dX6_count_205 ?_
      refine x_iload dX6_count_206 rfl ?_
      refine x_iadd dX6_count_208 ?_
      refine x_iald dX6_count_209 (hM.r 24 (by decide) (by decide)) (by obtain ⟨k, hk, rfl⟩ := vp_in_of hs (by decide); rw [show (640 : Int32) = nI 640 from rfl, pk_mul, nI_add]; exact vp_in_nI (N := 3840) (by omega) (by decide)) ?_
      have J218 : xV G l mX6_count (d + 8) 0 0 0 0 218 [.ref (A 0), .int s, .int w, xU, xU, xU, .int a, .int (nI j)] [.int (if ((vrM V (FX6_draws I V) 24) (Int32.toNatClampNeg (((640 : Int32) * s) + (nI j)))) = 0 then (0 : Int32) else (1 : Int32)), .int a] h1 Q := by
        refine x_iadd dX6_count_218 ?_
        refine x_istore dX6_count_219 (by decide) rfl ?_
        refine x_iinc (v := 1) dX6_count_221 rfl (by decide) (by decide) rfl ?_
        refine x_goto (tgt := 181) dX6_count_224 (by decide) ?_
        rw [LX6_hits] at hf
        refine xV.sub (L' := [.ref (A 0), .int s, .int w, xU, xU, xU, .int (a + (if ((vrM V (FX6_draws I V) 24) (Int32.toNatClampNeg (((640 : Int32) * s) + (nI j)))) = 0 then (0 : Int32) else (1 : Int32))), .int (nI (j + 1))]) ⟨Or.inr rfl, Or.inr rfl, Or.inr rfl, Or.inl rfl, Or.inl rfl, Or.inl rfl, Or.inr rfl, Or.inr (congrArg Value.int (nI_1 j)), trivial⟩ (ih (j + 1) _ (by omega) hf)
      refine x_if_eq (tgt := 217) dX6_count_210 (by decide) (fun hc_210 => ?_) (fun hc_210 => ?_)
      · refine x_iconst (v := 0) dX6_count_217 (by decide) ?_
        exact x_ls rfl (by first | rfl | (rw [if_pos hc_210] <;> rfl) | (simp only [if_pos hc_210]; rfl) | (simp only [if_pos hc_210])) J218
      · refine x_iconst (v := 1) dX6_count_213 (by decide) ?_
        refine x_goto (tgt := 218) dX6_count_214 (by decide) ?_
        exact x_ls rfl (by first | rfl | (rw [if_neg hc_210] <;> rfl) | (simp only [if_neg hc_210]; rfl) | (simp only [if_neg hc_210])) J218
  have rest : vp_in s 6 → (if (4 : Int32) ≤ w then (∀ h', xMod G A (mdI I) (vrM V (FX6_draws I V)) h' → xfM A h h' → Q (some (.int (FX6_hits I (FX6_draws I V) s))) h') else Q (some (.int (if w = 0 then ((V 11) (Int32.toNatClampNeg s)) else (if w = (1 : Int32) then (FX6_cnt I V s).1 else (if w = (2 : Int32) then (FX6_cnt I V s).2.1 else (FX6_cnt I V s).2.2))))) h) → xV G l mX6_count (d + 8) 0 0 0 0 131 [.ref (A 0), .int s, .int w, .int ((FX6_cnt I V s).1), .int ((FX6_cnt I V s).2.1), .int ((FX6_cnt I V s).2.2), xU, xU] [] h Q := by
    intro hs hQ9
    clear hQ
    have hQ := hQ9
    clear hQ9
    refine x_iload_n dX6_count_131 rfl ?_
    refine x_iconst (v := 4) dX6_count_132 (by decide) ?_
    refine x_icmp_ge (tgt := 171) dX6_count_133 (by decide) (fun hc_133 => ?_) (fun hc_133 => ?_)
    · refine x_aload_n dX6_count_171 rfl ?_
      refine x_callV (M' := mX6_draws) (mc' := 0) (ms' := 0) (As := []) dX6_count_172 gX6_count_X6_draws okX6_draws rfl rfl hM.1 rfl (Nat.le_of_ble_eq_true rfl) (Nat.le_of_ble_eq_true rfl) (Nat.le_refl _) (Nat.le_refl _) (Nat.le_refl _) ?_
      refine kX6_drawsA hM hA h6 hdv (fun j hj => by have := hpt j hj; unfold Int32.toNatClampNeg; omega) hok hfr (fun h9 hM9 hF9 => ?_)
      show xV _ _ _ _ _ _ _ _ _ _ _ _ _
      refine x_iconst (v := 0) dX6_count_175 (by decide) ?_
      refine x_istore dX6_count_176 (by decide) rfl ?_
      refine x_iconst (v := 0) dX6_count_178 (by decide) ?_
      refine x_istore dX6_count_179 (by decide) rfl ?_
      rw [if_pos hc_133] at hQ
      refine xV.sub (L' := [.ref (A 0), .int s, .int w, xU, xU, xU, .int 0, .int (nI 0)]) ⟨Or.inr rfl, Or.inr rfl, Or.inr rfl, Or.inl rfl, Or.inl rfl, Or.inl rfl, Or.inr rfl, Or.inr (congrArg Value.int nI_0.symm), trivial⟩ (second hs hQ h9 hM9 hF9 (I.1 * I.2.1).toNatClampNeg 0 0 (by omega) rfl)
    · refine x_iload_n dX6_count_136 rfl ?_
      have J170 : xV G l mX6_count (d + 8) 0 0 0 0 170 [.ref (A 0), .int s, .int w, .int ((FX6_cnt I V s).1), .int ((FX6_cnt I V s).2.1), .int ((FX6_cnt I V s).2.2), xU, xU] [.int (if w = 0 then ((V 11) (Int32.toNatClampNeg s)) else (if w = (1 : Int32) then (FX6_cnt I V s).1 else (if w = (2 : Int32) then (FX6_cnt I V s).2.1 else (FX6_cnt I V s).2.2)))] h Q := by
        rw [if_neg hc_133] at hQ
        exact x_iret dX6_count_170 rfl hQ
      refine x_if_ne (tgt := 149) dX6_count_137 (by decide) (fun hc_137 => ?_) (fun hc_137 => ?_)
      · refine x_iload_n dX6_count_149 rfl ?_
        refine x_iconst (v := 1) dX6_count_150 (by decide) ?_
        refine x_icmp_ne (tgt := 158) dX6_count_151 (by decide) (fun hc_151 => ?_) (fun hc_151 => ?_)
        · refine x_iload_n dX6_count_158 rfl ?_
          refine x_iconst (v := 2) dX6_count_159 (by decide) ?_
          refine x_icmp_ne (tgt := 168) dX6_count_160 (by decide) (fun hc_160 => ?_) (fun hc_160 => ?_)
          · refine x_iload dX6_count_168 rfl ?_
            exact x_ls rfl (by first | rfl | (rw [if_neg hc_137, if_neg hc_151, if_neg hc_160] <;> rfl) | (simp only [if_neg hc_137, if_neg hc_151, if_neg hc_160]; rfl) | (simp only [if_neg hc_137, if_neg hc_151, if_neg hc_160])) J170
          · refine x_iload dX6_count_163 rfl ?_
            refine x_goto (tgt := 170) dX6_count_165 (by decide) ?_
            exact x_ls rfl (by first | rfl | (rw [if_neg hc_137, if_neg hc_151, if_pos hc_160] <;> rfl) | (simp only [if_neg hc_137, if_neg hc_151, if_pos hc_160]; rfl) | (simp only [if_neg hc_137, if_neg hc_151, if_pos hc_160])) J170
        · refine x_iload_n dX6_count_154 rfl ?_
          refine x_goto (tgt := 170) dX6_count_155 (by decide) ?_
          exact x_ls rfl (by first | rfl | (rw [if_neg hc_137, if_pos hc_151] <;> rfl) | (simp only [if_neg hc_137, if_pos hc_151]; rfl) | (simp only [if_neg hc_137, if_pos hc_151])) J170
      · refine x_aload_n dX6_count_140 rfl ?_
        refine x_get 11 dX6_count_141 hM.1 rfl (by decide) (by decide +kernel) rfl ?_
        refine x_iload_n dX6_count_144 rfl ?_
        refine x_iald dX6_count_145 (hM.r 11 (by decide) (by decide)) hs ?_
        refine x_goto (tgt := 170) dX6_count_146 (by decide) ?_
        exact x_ls rfl (by first | rfl | (rw [if_pos hc_137] <;> rfl) | (simp only [if_pos hc_137]; rfl) | (simp only [if_pos hc_137])) J170
  refine x_aload_n dX6_count_0 rfl ?_
  refine x_iload_n dX6_count_1 rfl ?_
  refine x_callV (M' := mX6_isSeries) (mc' := 0) (ms' := 0) (As := [.int s]) dX6_count_2 gX6_count_X6_isSeries okX6_isSeries rfl rfl hM.1 rfl (Nat.le_of_ble_eq_true rfl) (Nat.le_of_ble_eq_true rfl) (Nat.le_refl _) (Nat.le_refl _) (Nat.le_refl _) ?_
  refine kX6_isSeries hM  ?_
  show xV _ _ _ _ _ _ _ _ _ _ _ _ _
  refine x_if_eq (tgt := 17) dX6_count_5 (by decide) (fun hc_5 => ?_) (fun hc_5 => ?_)
  · refine x_iconst (v := (-1)) dX6_count_17 (by decide) ?_
    rw [if_pos hc_5] at hQ
    exact x_iret dX6_count_18 rfl hQ
  · refine x_iload_n dX6_count_8 rfl ?_
    refine x_iconst (v := 0) dX6_count_9 (by decide) ?_
    refine x_iconst (v := 4) dX6_count_10 (by decide) ?_
    refine x_callS (M' := mX6_in) (mc' := 0) (ms' := 0) (As := [.int w, .int (0 : Int32), .int (4 : Int32)]) dX6_count_11 gX6_count_X6_in okX6_in rfl rfl (Nat.le_of_ble_eq_true rfl) (Nat.le_of_ble_eq_true rfl) (Nat.le_refl _) (Nat.le_refl _) (Nat.le_refl _) ?_
    refine kX6_in  ?_
    show xV _ _ _ _ _ _ _ _ _ _ _ _ _
    refine x_if_ne (tgt := 19) dX6_count_14 (by decide) (fun hc_14 => ?_) (fun hc_14 => ?_)
    · refine x_iconst (v := 0) dX6_count_19 (by decide) ?_
      refine x_istore_n dX6_count_20 (by decide) rfl ?_
      refine x_iconst (v := 0) dX6_count_21 (by decide) ?_
      refine x_istore dX6_count_22 (by decide) rfl ?_
      refine x_iconst (v := 0) dX6_count_24 (by decide) ?_
      refine x_istore dX6_count_25 (by decide) rfl ?_
      refine x_iconst (v := 0) dX6_count_27 (by decide) ?_
      refine x_istore dX6_count_28 (by decide) rfl ?_
      rw [if_neg hc_5, if_neg hc_14] at hQ
      have hs := ser_in h6 h0 hc_5
      refine xV.sub (L' := [.ref (A 0), .int s, .int w, .int 0, .int 0, .int 0, .int (nI 0), xU]) ⟨Or.inr rfl, Or.inr rfl, Or.inr rfl, Or.inr rfl, Or.inr rfl, Or.inr rfl, Or.inr (congrArg Value.int nI_0.symm), Or.inl rfl, trivial⟩ (first hs (V 11 (Int32.toNatClampNeg s)).toNatClampNeg 0 0 0 0 (by omega) (rest hs hQ))
    · refine x_iconst (v := (-1)) dX6_count_17 (by decide) ?_
      rw [if_neg hc_5, if_pos hc_14] at hQ
      exact x_iret dX6_count_18 rfl hQ
