def mlC (k cl w : Int32) : Int32 := (if k = 0 then (cl + (1 : Int32)) else (if k = (1 : Int32) then (cl - w) else cl))
def mlR (k rw : Int32) : Int32 := (if (2 : Int32) ≤ k then (if k = (2 : Int32) then (rw - (1 : Int32)) else (rw + (1 : Int32))) else rw)
theorem mlC_le {k cl : Int32} {w : Nat} (hcl : -100 ≤ cl.toInt ∧ cl.toInt ≤ 100) (hw : w ≤ 10) : (mlC k cl (nI w)).toInt ≤ 1000 := by
  have e1 : (1 : Int32).toInt = 1 := rfl
  unfold mlC
  split
  · rw [Int32.toInt_add, e1]
    have : (cl.toInt + 1).bmod (2 ^ 32) = cl.toInt + 1 := by rw [Int.bmod_def]; omega
    omega
  · split
    · rw [Int32.toInt_sub, nI_toInt (by omega)]
      have : (cl.toInt - (w : Int)).bmod (2 ^ 32) = cl.toInt - (w : Int) := by rw [Int.bmod_def]; omega
      omega
    · omega
/-- the first of the places k, k + 1, .. that is free -/
def labM (I : xMi) (V : Nat → Nat → Int32) (cl rw : Int32) (w : Nat) : Nat → Nat → Option Nat
  | 0, _ => none
  | n9 + 1, k => if FX6_isFree I V (mlC (nI k) cl (nI w)) (mlR (nI k) rw) w = 0 then labM I V cl rw w n9 (k + 1) else some k
def mlA (I : xMi) : xMi := (I.1, I.2.1, I.2.2.1, I.2.2.2.1 + 1, I.2.2.2.2)
/-- a label more -/
def mlAd (V : Nat → Nat → Int32) (n a b q s t : Int32) : Nat → Nat → Int32 := va_up (va_up (va_up (va_up (va_up V 17 (upd (V 17) (Int32.toNatClampNeg n) a)) 18 (upd (V 18) (Int32.toNatClampNeg n) b)) 19 (upd (V 19) (Int32.toNatClampNeg n) q)) 20 (upd (V 20) (Int32.toNatClampNeg n) s)) 21 (upd (V 21) (Int32.toNatClampNeg n) t)
set_option maxHeartbeats 4000000 in
set_option maxRecDepth 100000 in
theorem kX6_labelT {G : xG} {l : Launch} {d : Nat} {h : xH} {Q : Option Value → xH → Prop} {A : Nat → Nat} {I : xMi} {V : Nat → Nat → Int32} {s q cl rw : Int32} {w : Nat} (hM : xMod G A I V h) (hA : ∀ {i j : Nat}, i ≠ j → A i ≠ A j) {cn rn : Nat} (h6 : I.2.2.1.toInt ≤ 6) (hl20 : I.2.2.2.1 ≤ 20) (hcn : I.1 = nI cn) (hrn : I.2.1 = nI rn) (hc40 : cn ≤ 40) (hr16 : rn ≤ 16) (hl : vp_in I.2.2.2.1 20) (hcl : -100 ≤ cl.toInt ∧ cl.toInt ≤ 100) (hw : w ≤ 10) (hQn : (labM I V cl rw w 4 0) = none → Q (some (.int (-9))) h) (hQs : (∀ k, (labM I V cl rw w 4 0) = some k → ∀ h', xMod G A (mlA I) (mlAd V I.2.2.2.1 (mlC (nI k) cl (nI w)) (mlR (nI k) rw) (nI w) s q) h' → xfM A h h' → Q (some (.int (nI k))) h')) : xV G l mX6_label (d + 8) 0 0 0 0 79 [.ref (A 0), .int s, .int q, .int (nI w), .int cl, .int rw, .int (nI 0), xU, xU] [] h Q := by
  have loop : ∀ (n9 k : Nat), k + n9 = 4 → labM I V cl rw w n9 k = (labM I V cl rw w 4 0) → xV G l mX6_label (d + 8) 0 0 0 0 79 [.ref (A 0), .int s, .int q, .int (nI w), .int cl, .int rw, .int (nI k), xU, xU] [] h Q := by
    intro n9
    induction n9 with
    | zero =>
      intro k hk hf
      rw [labM] at hf
      have hf := hf.symm
      refine x_iload dX6_label_79 rfl ?_
      refine x_iconst (v := 4) dX6_label_81 (by decide) ?_
      refine x_icmp_ge (tgt := 227) dX6_label_82 (by decide) (fun _ => ?_) (fun z9 => absurd (nI_le (a := 4) (b := k) (by omega) (by omega)) z9)
      refine x_bipush (v := (-9)) dX6_label_227 (by decide) ?_
      exact x_iret dX6_label_229 rfl (hQn hf)
    | succ n9 ih =>
      intro k hk hf
      rw [labM] at hf
      refine x_iload dX6_label_79 rfl ?_
      refine x_iconst (v := 4) dX6_label_81 (by decide) ?_
      refine x_icmp_ge (tgt := 227) dX6_label_82 (by decide) (fun z9 => absurd z9 (nI_ge (a := k) (b := 4) (by omega) (by omega))) (fun _ => ?_)
      refine x_iload dX6_label_85 rfl ?_
      have J112 : xV G l mX6_label (d + 8) 0 0 0 0 112 [.ref (A 0), .int s, .int q, .int (nI w), .int cl, .int rw, .int (nI k), xU, xU] [.int (if (nI k) = 0 then (cl + (1 : Int32)) else (if (nI k) = (1 : Int32) then (cl - (nI w)) else cl))] h Q := by
        refine x_ls (st' := [.int (mlC (nI k) cl (nI w))]) rfl rfl ?_
        refine x_istore dX6_label_112 (by decide) rfl ?_
        refine x_iload dX6_label_114 rfl ?_
        refine x_iconst (v := 2) dX6_label_116 (by decide) ?_
        have J142 : xV G l mX6_label (d + 8) 0 0 0 0 142 [.ref (A 0), .int s, .int q, .int (nI w), .int cl, .int rw, .int (nI k), .int (mlC (nI k) cl (nI w)), xU] [.int (if (2 : Int32) ≤ (nI k) then (if (nI k) = (2 : Int32) then (rw - (1 : Int32)) else (rw + (1 : Int32))) else rw)] h Q := by
          refine x_ls (st' := [.int (mlR (nI k) rw)]) rfl rfl ?_
          refine x_istore dX6_label_142 (by decide) rfl ?_
          refine x_aload_n dX6_label_144 rfl ?_
          refine x_iload dX6_label_145 rfl ?_
          refine x_iload dX6_label_147 rfl ?_
          refine x_iload_n dX6_label_149 rfl ?_
          refine x_callV (M' := mX6_isFree) (mc' := 0) (ms' := 0) (As := [.int (mlC (nI k) cl (nI w)), .int (mlR (nI k) rw), .int (nI w)]) dX6_label_150 gX6_label_X6_isFree okX6_isFree rfl rfl hM.1 rfl (Nat.le_of_ble_eq_true rfl) (Nat.le_of_ble_eq_true rfl) (Nat.le_refl _) (Nat.le_refl _) (Nat.le_refl _) ?_
          refine kX6_isFree hM h6 hl20 hcn hrn hc40 hr16 (mlC_le hcl hw) hw ?_
          show xV _ _ _ _ _ _ _ _ _ _ _ _ _
          refine x_if_eq (tgt := 221) dX6_label_153 (by decide) (fun hc_153 => ?_) (fun hc_153 => ?_)
          · rw [if_pos hc_153] at hf
            refine x_iinc (v := 1) dX6_label_221 rfl (by decide) (by decide) rfl ?_
            refine x_goto (tgt := 79) dX6_label_224 (by decide) ?_
            refine xV.sub (L' := [.ref (A 0), .int s, .int q, .int (nI w), .int cl, .int rw, .int (nI (k + 1)), xU, xU]) ⟨Or.inr rfl, Or.inr rfl, Or.inr rfl, Or.inr rfl, Or.inr rfl, Or.inr rfl, Or.inr (congrArg Value.int (nI_1 k)), Or.inl rfl, Or.inl rfl, trivial⟩ (ih (k + 1) (by omega) hf)
          · rw [if_neg hc_153] at hf
            refine x_aload_n dX6_label_156 rfl ?_
            refine x_get 17 dX6_label_157 hM.1 rfl (by decide) (by decide +kernel) rfl ?_
            refine x_aload_n dX6_label_160 rfl ?_
            refine x_get 16 dX6_label_161 hM.1 rfl (by decide) (by decide +kernel) rfl ?_
            refine x_iload dX6_label_164 rfl ?_
            refine x_iast dX6_label_166 (hM.r 17 (by decide) (by decide)) hl ?_
            refine x_aload_n dX6_label_167 rfl ?_
            refine x_get 18 dX6_label_168 (xup_k (hA (by decide)) hM.1) rfl (by decide) (by decide +kernel) rfl ?_
            refine x_aload_n dX6_label_171 rfl ?_
            refine x_get 16 dX6_label_172 (xup_k (hA (by decide)) hM.1) rfl (by decide) (by decide +kernel) rfl ?_
            refine x_iload dX6_label_175 rfl ?_
            refine x_iast dX6_label_177 (xup_k (hA (by decide)) (hM.r 18 (by decide) (by decide))) hl ?_
            refine x_aload_n dX6_label_178 rfl ?_
            refine x_get 19 dX6_label_179 (xup_k (hA (by decide)) (xup_k (hA (by decide)) hM.1)) rfl (by decide) (by decide +kernel) rfl ?_
            refine x_aload_n dX6_label_182 rfl ?_
            refine x_get 16 dX6_label_183 (xup_k (hA (by decide)) (xup_k (hA (by decide)) hM.1)) rfl (by decide) (by decide +kernel) rfl ?_
            refine x_iload_n dX6_label_186 rfl ?_
            refine x_iast dX6_label_187 (xup_k (hA (by decide)) (xup_k (hA (by decide)) (hM.r 19 (by decide) (by decide)))) hl ?_
            refine x_aload_n dX6_label_188 rfl ?_
            refine x_get 20 dX6_label_189 (xup_k (hA (by decide)) (xup_k (hA (by decide)) (xup_k (hA (by decide)) hM.1))) rfl (by decide) (by decide +kernel) rfl ?_
            refine x_aload_n dX6_label_192 rfl ?_
            refine x_get 16 dX6_label_193 (xup_k (hA (by decide)) (xup_k (hA (by decide)) (xup_k (hA (by decide)) hM.1))) rfl (by decide) (by decide +kernel) rfl ?_
            refine x_iload_n dX6_label_196 rfl ?_
            refine x_iast dX6_label_197 (xup_k (hA (by decide)) (xup_k (hA (by decide)) (xup_k (hA (by decide)) (hM.r 20 (by decide) (by decide))))) hl ?_
            refine x_aload_n dX6_label_198 rfl ?_
            refine x_get 21 dX6_label_199 (xup_k (hA (by decide)) (xup_k (hA (by decide)) (xup_k (hA (by decide)) (xup_k (hA (by decide)) hM.1)))) rfl (by decide) (by decide +kernel) rfl ?_
            refine x_aload_n dX6_label_202 rfl ?_
            refine x_get 16 dX6_label_203 (xup_k (hA (by decide)) (xup_k (hA (by decide)) (xup_k (hA (by decide)) (xup_k (hA (by decide)) hM.1)))) rfl (by decide) (by decide +kernel) rfl ?_
            refine x_iload_n dX6_label_206 rfl ?_
            refine x_iast dX6_label_207 (xup_k (hA (by decide)) (xup_k (hA (by decide)) (xup_k (hA (by decide)) (xup_k (hA (by decide)) (hM.r 21 (by decide) (by decide)))))) hl ?_
            refine x_aload_n dX6_label_208 rfl ?_
            refine x_dup dX6_label_209 rfl ?_
            refine x_get 16 dX6_label_210 (xup_k (hA (by decide)) (xup_k (hA (by decide)) (xup_k (hA (by decide)) (xup_k (hA (by decide)) (xup_k (hA (by decide)) hM.1))))) rfl (by decide) (by decide +kernel) rfl ?_
            refine x_iconst (v := 1) dX6_label_213 (by decide) ?_
            refine x_iadd dX6_label_214 ?_
            refine x_put 16 dX6_label_215 (xup_k (hA (by decide)) (xup_k (hA (by decide)) (xup_k (hA (by decide)) (xup_k (hA (by decide)) (xup_k (hA (by decide)) hM.1))))) rfl (by decide) (by decide +kernel) rfl rfl rfl rfl (Nat.le_of_ble_eq_true rfl) ?_
            refine x_iload dX6_label_218 rfl ?_
            exact x_iret dX6_label_220 rfl (hQs k hf.symm _ ((((((hM.w hA 17 (by decide) (upd (V 17) (Int32.toNatClampNeg I.2.2.2.1) (mlC (nI k) cl (nI w)))).w hA 18 (by decide) (upd (V 18) (Int32.toNatClampNeg I.2.2.2.1) (mlR (nI k) rw))).w hA 19 (by decide) (upd (V 19) (Int32.toNatClampNeg I.2.2.2.1) (nI w))).w hA 20 (by decide) (upd (V 20) (Int32.toNatClampNeg I.2.2.2.1) s)).w hA 21 (by decide) (upd (V 21) (Int32.toNatClampNeg I.2.2.2.1) q)).o hA (I.1, I.2.1, I.2.2.1, (I.2.2.2.1 + (1 : Int32)), I.2.2.2.2)) (fun a9 ha => by rw [xup_n (ha 0), xup_n (ha 21), xup_n (ha 20), xup_n (ha 19), xup_n (ha 18), xup_n (ha 17)]))
        refine x_icmp_ge (tgt := 125) dX6_label_117 (by decide) (fun hc_117 => ?_) (fun hc_117 => ?_)
        · refine x_iload dX6_label_125 rfl ?_
          refine x_iconst (v := 2) dX6_label_127 (by decide) ?_
          refine x_icmp_ne (tgt := 138) dX6_label_128 (by decide) (fun hc_128 => ?_) (fun hc_128 => ?_)
          · refine x_iload dX6_label_138 rfl ?_
            refine x_iconst (v := 1) dX6_label_140 (by decide) ?_
            refine x_iadd dX6_label_141 ?_
            exact x_ls rfl (by first | rfl | (rw [if_pos hc_117, if_neg hc_128] <;> rfl) | (simp only [if_pos hc_117, if_neg hc_128]; rfl) | (simp only [if_pos hc_117, if_neg hc_128])) J142
          · refine x_iload dX6_label_131 rfl ?_
            refine x_iconst (v := 1) dX6_label_133 (by decide) ?_
            refine x_isub dX6_label_134 ?_
            refine x_goto (tgt := 142) dX6_label_135 (by decide) ?_
            exact x_ls rfl (by first | rfl | (rw [if_pos hc_117, if_pos hc_128] <;> rfl) | (simp only [if_pos hc_117, if_pos hc_128]; rfl) | (simp only [if_pos hc_117, if_pos hc_128])) J142
        · refine x_iload dX6_label_120 rfl ?_
          refine x_goto (tgt := 142) dX6_label_122 (by decide) ?_
          exact x_ls rfl (by first | rfl | (rw [if_neg hc_117] <;> rfl) | (simp only [if_neg hc_117]; rfl) | (simp only [if_neg hc_117])) J142
      refine x_if_ne (tgt := 97) dX6_label_87 (by decide) (fun hc_87 => ?_) (fun hc_87 => ?_)
      · refine x_iload dX6_label_97 rfl ?_
        refine x_iconst (v := 1) dX6_label_99 (by decide) ?_
        refine x_icmp_ne (tgt := 110) dX6_label_100 (by decide) (fun hc_100 => ?_) (fun hc_100 => ?_)
        · refine x_iload dX6_label_110 rfl ?_
          exact x_ls rfl (by first | rfl | (rw [if_neg hc_87, if_neg hc_100] <;> rfl) | (simp only [if_neg hc_87, if_neg hc_100]; rfl) | (simp only [if_neg hc_87, if_neg hc_100])) J112
        · refine x_iload dX6_label_103 rfl ?_
          refine x_iload_n dX6_label_105 rfl ?_
          refine x_isub dX6_label_106 ?_
          refine x_goto (tgt := 112) dX6_label_107 (by decide) ?_
          exact x_ls rfl (by first | rfl | (rw [if_neg hc_87, if_pos hc_100] <;> rfl) | (simp only [if_neg hc_87, if_pos hc_100]; rfl) | (simp only [if_neg hc_87, if_pos hc_100])) J112
      · refine x_iload dX6_label_90 rfl ?_
        refine x_iconst (v := 1) dX6_label_92 (by decide) ?_
        refine x_iadd dX6_label_93 ?_
        refine x_goto (tgt := 112) dX6_label_94 (by decide) ?_
        exact x_ls rfl (by first | rfl | (rw [if_pos hc_87] <;> rfl) | (simp only [if_pos hc_87]; rfl) | (simp only [if_pos hc_87])) J112
  exact loop 4 0 rfl rfl
set_option maxHeartbeats 4000000 in
set_option maxRecDepth 100000 in
theorem kX6_labelB {G : xG} {l : Launch} {d : Nat} {h : xH} {Q : Option Value → xH → Prop} {A : Nat → Nat} {I : xMi} {V : Nat → Nat → Int32} {s q ln : Int32} (hM : xMod G A I V h) (h6 : I.2.2.1.toInt ≤ 6) (h0 : 0 ≤ I.2.2.1.toInt) (hb : FX6_isPoint I V s q = 0 ∨ FX6_in ln 1 10 = 0) (hQ : Q (some (.int (-1))) h) : xV G l mX6_label (d + 8) 0 0 0 0 0 [.ref (A 0), .int s, .int q, .int ln, xU, xU, xU, xU, xU] [] h Q := by
  refine x_aload_n dX6_label_0 rfl ?_
  refine x_iload_n dX6_label_1 rfl ?_
  refine x_iload_n dX6_label_2 rfl ?_
  refine x_callV (M' := mX6_isPoint) (mc' := 0) (ms' := 0) (As := [.int s, .int q]) dX6_label_3 gX6_label_X6_isPoint okX6_isPoint rfl rfl hM.1 rfl (Nat.le_of_ble_eq_true rfl) (Nat.le_of_ble_eq_true rfl) (Nat.le_refl _) (Nat.le_refl _) (Nat.le_refl _) ?_
  refine kX6_isPoint hM h6 h0 ?_
  show xV _ _ _ _ _ _ _ _ _ _ _ _ _
  refine x_if_eq (tgt := 19) dX6_label_6 (by decide) (fun hc_6 => ?_) (fun hc_6 => ?_)
  · refine x_iconst (v := (-1)) dX6_label_19 (by decide) ?_
    exact x_iret dX6_label_20 rfl hQ
  · refine x_iload_n dX6_label_9 rfl ?_
    refine x_iconst (v := 1) dX6_label_10 (by decide) ?_
    refine x_bipush (v := 10) dX6_label_11 (by decide) ?_
    refine x_callS (M' := mX6_in) (mc' := 0) (ms' := 0) (As := [.int ln, .int (1 : Int32), .int (10 : Int32)]) dX6_label_13 gX6_label_X6_in okX6_in rfl rfl (Nat.le_of_ble_eq_true rfl) (Nat.le_of_ble_eq_true rfl) (Nat.le_refl _) (Nat.le_refl _) (Nat.le_refl _) ?_
    refine kX6_in  ?_
    show xV _ _ _ _ _ _ _ _ _ _ _ _ _
    refine x_if_ne (tgt := 21) dX6_label_16 (by decide) (fun hc_16 => ?_) (fun hc_16 => ?_)
    · exact absurd hb (not_or.mpr ⟨hc_6, hc_16⟩)
    · refine x_iconst (v := (-1)) dX6_label_19 (by decide) ?_
      exact x_iret dX6_label_20 rfl hQ
theorem ml20 {n : Int32} (h1 : n ≤ 20) (h0 : 0 ≤ n) (h : ¬ n = 20) : vp_in n 20 := by
  rw [vp_in_iff]
  rw [Int32.le_iff_toInt_le] at h1 h0
  have e0 : (0 : Int32).toInt = 0 := rfl
  have e20 : (20 : Int32).toInt = 20 := rfl
  have : n.toInt ≠ 20 := fun q => h (Int32.toInt_inj.mp (by rw [q]; rfl))
  omega
set_option maxHeartbeats 4000000 in
set_option maxRecDepth 100000 in
theorem kX6_label {G : xG} {l : Launch} {d : Nat} {h : xH} {Q : Option Value → xH → Prop} {A : Nat → Nat} {I : xMi} {V : Nat → Nat → Int32} {s q : Int32} {w : Nat} (hM : xMod G A I V h) (hA : ∀ {i j : Nat}, i ≠ j → A i ≠ A j) (hR : mRdy I V) (hp : ¬ FX6_isPoint I V s q = 0) (hw1 : ¬ FX6_in (nI w) 1 10 = 0) (hw : w ≤ 10) (hcl : -100 ≤ (FX6_across (mdI I) (drV I V) s q / 2).toInt ∧ (FX6_across (mdI I) (drV I V) s q / 2).toInt ≤ 100) (hQ : (if (FX6_isSeen I V s q) = 0 then Q (some (.int (-2 : Int32))) h else (if I.2.2.2.1 = (20 : Int32) then Q (some (.int (-3 : Int32))) h else (((labM (mdI I) (drV I V) (FX6_across (mdI I) (drV I V) s q / 2) ((I.2.1 - 1) - FX6_upwards (mdI I) (drV I V) s q / 4) w 4 0) = none → ∀ h', xMod G A (mdI I) (drV I V) h' → xfM A h h' → Q (some (.int (-9))) h') ∧ (∀ k, (labM (mdI I) (drV I V) (FX6_across (mdI I) (drV I V) s q / 2) ((I.2.1 - 1) - FX6_upwards (mdI I) (drV I V) s q / 4) w 4 0) = some k → ∀ h', xMod G A (mlA (mdI I)) (mlAd (drV I V) (mdI I).2.2.2.1 (mlC (nI k) (FX6_across (mdI I) (drV I V) s q / 2) (nI w)) (mlR (nI k) ((I.2.1 - 1) - FX6_upwards (mdI I) (drV I V) s q / 4)) (nI w) s q) h' → xfM A h h' → Q (some (.int (nI k))) h'))))) : xV G l mX6_label (d + 8) 0 0 0 0 0 [.ref (A 0), .int s, .int q, .int (nI w), xU, xU, xU, xU, xU] [] h Q := by
  refine x_aload_n dX6_label_0 rfl ?_
  refine x_iload_n dX6_label_1 rfl ?_
  refine x_iload_n dX6_label_2 rfl ?_
  refine x_callV (M' := mX6_isPoint) (mc' := 0) (ms' := 0) (As := [.int s, .int q]) dX6_label_3 gX6_label_X6_isPoint okX6_isPoint rfl rfl hM.1 rfl (Nat.le_of_ble_eq_true rfl) (Nat.le_of_ble_eq_true rfl) (Nat.le_refl _) (Nat.le_refl _) (Nat.le_refl _) ?_
  refine kX6_isPoint hM hR.1.2 hR.1.1 ?_
  show xV _ _ _ _ _ _ _ _ _ _ _ _ _
  refine x_if_eq (tgt := 19) dX6_label_6 (by decide) (fun z9 => absurd z9 hp) (fun _ => ?_)
  refine x_iload_n dX6_label_9 rfl ?_
  refine x_iconst (v := 1) dX6_label_10 (by decide) ?_
  refine x_bipush (v := 10) dX6_label_11 (by decide) ?_
  refine x_callS (M' := mX6_in) (mc' := 0) (ms' := 0) (As := [.int (nI w), .int (1 : Int32), .int (10 : Int32)]) dX6_label_13 gX6_label_X6_in okX6_in rfl rfl (Nat.le_of_ble_eq_true rfl) (Nat.le_of_ble_eq_true rfl) (Nat.le_refl _) (Nat.le_refl _) (Nat.le_refl _) ?_
  refine kX6_in  ?_
  show xV _ _ _ _ _ _ _ _ _ _ _ _ _
  refine x_if_ne (tgt := 21) dX6_label_16 (by decide) (fun _ => ?_) (fun z9 => absurd z9 hw1)
  refine x_aload_n dX6_label_21 rfl ?_
  refine x_iload_n dX6_label_22 rfl ?_
  refine x_iload_n dX6_label_23 rfl ?_
  refine x_callV (M' := mX6_isSeen) (mc' := 0) (ms' := 0) (As := [.int s, .int q]) dX6_label_24 gX6_label_X6_isSeen okX6_isSeen rfl rfl hM.1 rfl (Nat.le_of_ble_eq_true rfl) (Nat.le_of_ble_eq_true rfl) (Nat.le_refl _) (Nat.le_refl _) (Nat.le_refl _) ?_
  refine kX6_isSeen hM hR.2.1 (fun _ => (mpt_in hR.1.2 hR.1.1 hR.2.2.1 hp)) ?_
  show xV _ _ _ _ _ _ _ _ _ _ _ _ _
  refine x_if_ne (tgt := 33) dX6_label_27 (by decide) (fun hc_27 => ?_) (fun hc_27 => ?_)
  · refine x_aload_n dX6_label_33 rfl ?_
    refine x_get 16 dX6_label_34 hM.1 rfl (by decide) (by decide +kernel) rfl ?_
    refine x_bipush (v := 20) dX6_label_37 (by decide) ?_
    refine x_icmp_ne (tgt := 45) dX6_label_39 (by decide) (fun hc_39 => ?_) (fun hc_39 => ?_)
    · refine x_aload_n dX6_label_45 rfl ?_
      refine x_callV (M' := mX6_draws) (mc' := 0) (ms' := 0) (As := []) dX6_label_46 gX6_label_X6_draws okX6_draws rfl rfl hM.1 rfl (Nat.le_of_ble_eq_true rfl) (Nat.le_of_ble_eq_true rfl) (Nat.le_refl _) (Nat.le_refl _) (Nat.le_refl _) ?_
      refine kX6_drawsR hM hA hR (fun h9 hM9 hF9 => ?_)
      have hM0 := hM
      clear hM
      have hM := hM9
      show xV _ _ _ _ _ _ _ _ _ _ _ _ _
      refine x_aload_n dX6_label_49 rfl ?_
      refine x_iload_n dX6_label_50 rfl ?_
      refine x_iload_n dX6_label_51 rfl ?_
      refine x_callV (M' := mX6_across) (mc' := 0) (ms' := 0) (As := [.int s, .int q]) dX6_label_52 gX6_label_X6_across okX6_across rfl rfl hM.1 rfl (Nat.le_of_ble_eq_true rfl) (Nat.le_of_ble_eq_true rfl) (Nat.le_refl _) (Nat.le_refl _) (Nat.le_refl _) ?_
      refine kX6_across hM hR.2.1 (mpt_in hR.1.2 hR.1.1 hR.2.2.1 hp) ?_
      show xV _ _ _ _ _ _ _ _ _ _ _ _ _
      refine x_iconst (v := 2) dX6_label_55 (by decide) ?_
      refine x_idiv dX6_label_56 (by decide) ?_
      refine x_istore dX6_label_57 (by decide) rfl ?_
      refine x_aload_n dX6_label_59 rfl ?_
      refine x_get 1 dX6_label_60 hM.1 rfl (by decide) (by decide +kernel) rfl ?_
      refine x_iconst (v := 1) dX6_label_63 (by decide) ?_
      refine x_isub dX6_label_64 ?_
      refine x_aload_n dX6_label_65 rfl ?_
      refine x_iload_n dX6_label_66 rfl ?_
      refine x_iload_n dX6_label_67 rfl ?_
      refine x_callV (M' := mX6_upwards) (mc' := 0) (ms' := 0) (As := [.int s, .int q]) dX6_label_68 gX6_label_X6_upwards okX6_upwards rfl rfl hM.1 rfl (Nat.le_of_ble_eq_true rfl) (Nat.le_of_ble_eq_true rfl) (Nat.le_refl _) (Nat.le_refl _) (Nat.le_refl _) ?_
      refine kX6_upwards hM hR.2.1 (mpt_in hR.1.2 hR.1.1 hR.2.2.1 hp) ?_
      show xV _ _ _ _ _ _ _ _ _ _ _ _ _
      refine x_iconst (v := 4) dX6_label_71 (by decide) ?_
      refine x_idiv dX6_label_72 (by decide) ?_
      refine x_isub dX6_label_73 ?_
      refine x_istore dX6_label_74 (by decide) rfl ?_
      refine x_iconst (v := 0) dX6_label_76 (by decide) ?_
      refine x_istore dX6_label_77 (by decide) rfl ?_
      rw [if_neg hc_27, if_neg hc_39] at hQ
      obtain ⟨cn, rn, hcn, hrn, hc40, hr16⟩ := hR.2.2.2.2.2.2
      refine xV.sub (L' := [.ref (A 0), .int s, .int q, .int (nI w), .int (FX6_across (mdI I) (drV I V) s q / 2), .int ((I.2.1 - 1) - FX6_upwards (mdI I) (drV I V) s q / 4), .int (nI 0), xU, xU]) ⟨Or.inr rfl, Or.inr rfl, Or.inr rfl, Or.inr rfl, Or.inr rfl, Or.inr rfl, Or.inr (congrArg Value.int nI_0.symm), Or.inl rfl, Or.inl rfl, trivial⟩ (kX6_labelT hM hA hR.1.2 hR.2.2.2.2.2.1.1 hcn hrn hc40 hr16 (ml20 hR.2.2.2.2.2.1.1 hR.2.2.2.2.2.1.2 hc_39) hcl hw (fun z => hQ.1 z h9 hM9 hF9) (fun k z h' hz hf => hQ.2 k z h' hz (hF9.tr hf)))
    · refine x_bipush (v := (-3)) dX6_label_42 (by decide) ?_
      rw [if_neg hc_27, if_pos hc_39] at hQ
      exact x_iret dX6_label_44 rfl hQ
  · refine x_bipush (v := (-2)) dX6_label_30 (by decide) ?_
    rw [if_pos hc_27] at hQ
    exact x_iret dX6_label_32 rfl hQ
