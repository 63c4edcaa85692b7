def qN (a : Nat) : Int64 := Int64.ofNat a
theorem qN_toInt {a : Nat} (h : a < 2 ^ 63) : (qN a).toInt = (a : Int) := by
  unfold qN
  rw [Int64.toInt_ofNat']
  have e : Int64.size = 18446744073709551616 := rfl
  rw [Int.bmod_def, e]; omega
theorem qN_add (a b : Nat) : qN a + qN b = qN (a + b) := (Int64.ofNat_add a b).symm
theorem qN_half {a : Nat} (h : a < 2 ^ 62) : qN a / 2 = qN (a / 2) := by
  refine Int64.toInt_inj.mp ?_
  rw [Int64.toInt_div, qN_toInt (by omega), qN_toInt (by omega)]
  have e2 : (2 : Int64).toInt = 2 := rfl
  rw [e2]
  have h2 : ((a : Int).tdiv 2) = ((a / 2 : Nat) : Int) := rfl
  rw [h2, Int.bmod_def]
  omega
theorem qN_le {a b : Nat} (ha : a < 2 ^ 63) (hb : b < 2 ^ 63) : qN a ≤ qN b ↔ a ≤ b := by
  rw [Int64.le_iff_toInt_le, qN_toInt ha, qN_toInt hb]
  omega
def LX6_srch (g : Nat → Int32) (t : Int32) : Nat → Nat → Nat → Nat
  | 0, a, _ => a
  | n + 1, a, b => if b ≤ a then a else if g ((a + b) / 2) < t then LX6_srch g t n ((a + b) / 2 + 1) b else LX6_srch g t n a ((a + b) / 2)
def mvD (I : xMi) (V : Nat → Nat → Int32) (ax dot : Int32) : Int32 := if V 2 (Int32.toNatClampNeg ax) = 1 then ((FX6_dots I V ax - 1) - dot) else dot
def mvS (I : xMi) (V : Nat → Nat → Int32) (ax dot : Int32) (sp : Nat) : Nat := LX6_srch (fun a => FX6_dotOf I V ax (qN a)) (mvD I V ax dot) sp 0 sp
def FX6_valT (I : xMi) (V : Nat → Nat → Int32) (ax dot : Int32) (sp : Nat) : Int32 := (if (FX6_dotOf I V ax (qN (mvS I V ax dot sp))) = (mvD I V ax dot) then (Int64.toInt32 (if ((V 2) (Int32.toNatClampNeg ax)) = (2 : Int32) then (if (lg_cmp ((Int32.toInt64 ((V 3) (Int32.toNatClampNeg ax))) + (qN (mvS I V ax dot sp))) (Int32.toInt64 ((V 5) (Int32.toNatClampNeg ax)))) ≤ 0 then ((Int32.toInt64 ((V 3) (Int32.toNatClampNeg ax))) + (qN (mvS I V ax dot sp))) else (((Int32.toInt64 ((V 3) (Int32.toNatClampNeg ax))) + (qN (mvS I V ax dot sp))) + (Int32.toInt64 (FX6_left I V ax)))) else ((Int32.toInt64 ((V 3) (Int32.toNatClampNeg ax))) + (qN (mvS I V ax dot sp))))) else (-2000000000 : Int32))
def FX6_value (I : xMi) (V : Nat → Nat → Int32) (ax dot : Int32) (sp : Nat) : Int32 := (if (FX6_isAxis ax) = 0 then (-2000000000 : Int32) else (if (FX6_in dot (0 : Int32) ((FX6_dots I V ax) - (1 : Int32))) = 0 then (-2000000000 : Int32) else (FX6_valT I V ax dot sp)))
set_option maxHeartbeats 4000000 in
set_option maxRecDepth 100000 in
theorem kX6_value {G : xG} {l : Launch} {d : Nat} {h : xH} {Q : Option Value → xH → Prop} {A : Nat → Nat} {I : xMi} {V : Nat → Nat → Int32} {ax dot : Int32} {sp : Nat} (hM : xMod G A I V h) (hdv : ∀ ax, vp_in ax 2 → ¬ (2 : Int64) * FX6_span I V ax = 0) (hsp : vp_in ax 2 → FX6_span I V ax = qN sp) (hsb : sp < 2 ^ 40) (hQ : Q (some (.int (FX6_value I V ax dot sp))) h) : xV G l mX6_value (d + 4) 0 0 0 0 0 [.ref (A 0), .int ax, .int dot, xU, xU, xU, xU, xU, xU, xU] [] h Q := by
  have loop : vp_in ax 2 → xV G l mX6_value (d + 4) 0 0 0 0 105 [.ref (A 0), .int ax, .int dot, .int (mvD I V ax dot), .long (qN (mvS I V ax dot sp)), xU, xU, xU, xU, xU] [] h Q → ∀ (n9 a b : Nat), a ≤ b → b ≤ sp → b - a ≤ n9 → LX6_srch (fun a => FX6_dotOf I V ax (qN a)) (mvD I V ax dot) n9 a b = (mvS I V ax dot sp) → xV G l mX6_value (d + 4) 0 0 0 0 59 [.ref (A 0), .int ax, .int dot, .int (mvD I V ax dot), .long (qN a), xU, .long (qN b), xU, xU, xU] [] h Q := by
    clear hQ
    intro hax hk n9
    induction n9 with
    | zero =>
      intro a b hab hb hn hf
      refine x_lload dX6_value_59 rfl ?_
      refine x_lload dX6_value_61 rfl ?_
      refine x_lcmp dX6_value_63 ?_
      refine x_if_ge (tgt := 105) dX6_value_64 (by decide) (fun _ => ?_) (fun z9 => absurd ((lg_cmp_ge _ _).mpr ((qN_le (by omega) (by omega)).mpr (by omega))) z9)
      rw [LX6_srch] at hf
      rw [← hf] at hk
      refine xV.sub (L' := [.ref (A 0), .int ax, .int dot, .int (mvD I V ax dot), .long (qN a), xU, xU, xU, xU, xU]) ⟨Or.inr rfl, Or.inr rfl, Or.inr rfl, Or.inr rfl, Or.inr rfl, Or.inl rfl, Or.inl rfl, Or.inl rfl, Or.inl rfl, Or.inl rfl, trivial⟩ hk
    | succ n9 ih =>
      intro a b hab hb hn hf
      refine x_lload dX6_value_59 rfl ?_
      refine x_lload dX6_value_61 rfl ?_
      refine x_lcmp dX6_value_63 ?_
      refine x_if_ge (tgt := 105) dX6_value_64 (by decide) (fun hc_64 => ?_) (fun hc_64 => ?_)
      · have hab : b ≤ a := (qN_le (by omega) (by omega)).mp ((lg_cmp_ge _ _).mp hc_64)
        rw [LX6_srch, if_pos hab] at hf
        rw [← hf] at hk
        refine xV.sub (L' := [.ref (A 0), .int ax, .int dot, .int (mvD I V ax dot), .long (qN a), xU, xU, xU, xU, xU]) ⟨Or.inr rfl, Or.inr rfl, Or.inr rfl, Or.inr rfl, Or.inr rfl, Or.inl rfl, Or.inl rfl, Or.inl rfl, Or.inl rfl, Or.inl rfl, trivial⟩ hk
      · have hab : ¬ b ≤ a := fun q => hc_64 ((lg_cmp_ge _ _).mpr ((qN_le (by omega) (by omega)).mpr q))
        rw [LX6_srch, if_neg hab] at hf
        refine x_lload dX6_value_67 rfl ?_
        refine x_lload dX6_value_69 rfl ?_
        refine x_ladd dX6_value_71 ?_
        refine x_ldc2 (v := 2) dX6_value_72 (by decide +kernel) ?_
        refine x_ldiv dX6_value_75 (by decide) ?_
        rw [qN_add, qN_half (by omega)]
        refine x_lstore dX6_value_76 (by decide) rfl ?_
        refine x_aload_n dX6_value_78 rfl ?_
        refine x_iload_n dX6_value_79 rfl ?_
        refine x_lload dX6_value_80 rfl ?_
        refine x_callV (M' := mX6_dotOf) (mc' := 0) (ms' := 0) (As := [.int ax, .long (qN ((a + b) / 2))]) dX6_value_82 gX6_value_X6_dotOf okX6_dotOf rfl rfl hM.1 rfl (Nat.le_of_ble_eq_true rfl) (Nat.le_of_ble_eq_true rfl) (Nat.le_refl _) (Nat.le_refl _) (Nat.le_refl _) ?_
        refine kX6_dotOf hM hax (hdv _ hax) ?_
        show xV _ _ _ _ _ _ _ _ _ _ _ _ _
        refine x_iload_n dX6_value_85 rfl ?_
        refine x_icmp_lt (tgt := 96) dX6_value_86 (by decide) (fun hc_86 => ?_) (fun hc_86 => ?_)
        · refine x_lload dX6_value_96 rfl ?_
          refine x_lconst (v := 1) dX6_value_98 (by decide) ?_
          refine x_ladd dX6_value_99 ?_
          rw [show (1 : Int64) = qN 1 from rfl, qN_add]
          refine x_lstore dX6_value_100 (by decide) rfl ?_
          refine x_goto (tgt := 59) dX6_value_102 (by decide) ?_
          rw [if_pos hc_86] at hf
          refine xV.sub (L' := [.ref (A 0), .int ax, .int dot, .int (mvD I V ax dot), .long (qN ((a + b) / 2 + 1)), xU, .long (qN b), xU, xU, xU]) ⟨Or.inr rfl, Or.inr rfl, Or.inr rfl, Or.inr rfl, Or.inr rfl, Or.inl rfl, Or.inr rfl, Or.inl rfl, Or.inl rfl, Or.inl rfl, trivial⟩ (ih _ _ (by omega) (by omega) (by omega) hf)
        · refine x_lload dX6_value_89 rfl ?_
          refine x_lstore dX6_value_91 (by decide) rfl ?_
          refine x_goto (tgt := 102) dX6_value_93 (by decide) ?_
          refine x_goto (tgt := 59) dX6_value_102 (by decide) ?_
          rw [if_neg hc_86] at hf
          refine xV.sub (L' := [.ref (A 0), .int ax, .int dot, .int (mvD I V ax dot), .long (qN a), xU, .long (qN ((a + b) / 2)), xU, xU, xU]) ⟨Or.inr rfl, Or.inr rfl, Or.inr rfl, Or.inr rfl, Or.inr rfl, Or.inl rfl, Or.inr rfl, Or.inl rfl, Or.inl rfl, Or.inl rfl, trivial⟩ (ih _ _ (by omega) (by omega) (by omega) hf)
  have rest : vp_in ax 2 → Q (some (.int (FX6_valT I V ax dot sp))) h → xV G l mX6_value (d + 4) 0 0 0 0 105 [.ref (A 0), .int ax, .int dot, .int (mvD I V ax dot), .long (qN (mvS I V ax dot sp)), xU, xU, xU, xU, xU] [] h Q := by
    intro hax hQ9
    clear hQ
    have hQ := hQ9
    clear hQ9
    refine x_aload_n dX6_value_105 rfl ?_
    refine x_iload_n dX6_value_106 rfl ?_
    refine x_lload dX6_value_107 rfl ?_
    refine x_callV (M' := mX6_dotOf) (mc' := 0) (ms' := 0) (As := [.int ax, .long (qN (mvS I V ax dot sp))]) dX6_value_109 gX6_value_X6_dotOf okX6_dotOf rfl rfl hM.1 rfl (Nat.le_of_ble_eq_true rfl) (Nat.le_of_ble_eq_true rfl) (Nat.le_refl _) (Nat.le_refl _) (Nat.le_refl _) ?_
    refine kX6_dotOf hM hax (hdv _ hax) ?_
    show xV _ _ _ _ _ _ _ _ _ _ _ _ _
    refine x_iload_n dX6_value_112 rfl ?_
    refine x_icmp_eq (tgt := 119) dX6_value_113 (by decide) (fun hc_113 => ?_) (fun hc_113 => ?_)
    · refine x_aload_n dX6_value_119 rfl ?_
      refine x_get 3 dX6_value_120 hM.1 rfl (by decide) (by decide +kernel) rfl ?_
      refine x_iload_n dX6_value_123 rfl ?_
      refine x_iald dX6_value_124 (hM.r 3 (by decide) (by decide)) hax ?_
      refine x_i2l dX6_value_125 ?_
      refine x_lload dX6_value_126 rfl ?_
      refine x_ladd dX6_value_128 ?_
      refine x_lstore dX6_value_129 (by decide) rfl ?_
      refine x_aload_n dX6_value_131 rfl ?_
      refine x_get 2 dX6_value_132 hM.1 rfl (by decide) (by decide +kernel) rfl ?_
      refine x_iload_n dX6_value_135 rfl ?_
      refine x_iald dX6_value_136 (hM.r 2 (by decide) (by decide)) hax ?_
      refine x_iconst (v := 2) dX6_value_137 (by decide) ?_
      have J168 : xV G l mX6_value (d + 4) 0 0 0 0 168 [.ref (A 0), .int ax, .int dot, .int (mvD I V ax dot), .long (qN (mvS I V ax dot sp)), xU, xU, xU, .long ((Int32.toInt64 ((V 3) (Int32.toNatClampNeg ax))) + (qN (mvS I V ax dot sp))), xU] [.long (if ((V 2) (Int32.toNatClampNeg ax)) = (2 : Int32) then (if (lg_cmp ((Int32.toInt64 ((V 3) (Int32.toNatClampNeg ax))) + (qN (mvS I V ax dot sp))) (Int32.toInt64 ((V 5) (Int32.toNatClampNeg ax)))) ≤ 0 then ((Int32.toInt64 ((V 3) (Int32.toNatClampNeg ax))) + (qN (mvS I V ax dot sp))) else (((Int32.toInt64 ((V 3) (Int32.toNatClampNeg ax))) + (qN (mvS I V ax dot sp))) + (Int32.toInt64 (FX6_left I V ax)))) else ((Int32.toInt64 ((V 3) (Int32.toNatClampNeg ax))) + (qN (mvS I V ax dot sp))))] h Q := by
        refine x_l2i dX6_value_168 ?_
        exact x_iret dX6_value_169 rfl (xri (by unfold FX6_valT; rw [if_pos hc_113]) hQ)
      refine x_icmp_ne (tgt := 166) dX6_value_138 (by decide) (fun hc_138 => ?_) (fun hc_138 => ?_)
      · refine x_lload dX6_value_166 rfl ?_
        exact x_ls rfl (by first | rfl | (rw [if_neg hc_138] <;> rfl) | (simp only [if_neg hc_138]; rfl) | (simp only [if_neg hc_138])) J168
      · refine x_lload dX6_value_141 rfl ?_
        refine x_aload_n dX6_value_143 rfl ?_
        refine x_get 5 dX6_value_144 hM.1 rfl (by decide) (by decide +kernel) rfl ?_
        refine x_iload_n dX6_value_147 rfl ?_
        refine x_iald dX6_value_148 (hM.r 5 (by decide) (by decide)) hax ?_
        refine x_i2l dX6_value_149 ?_
        refine x_lcmp dX6_value_150 ?_
        refine x_if_le (tgt := 166) dX6_value_151 (by decide) (fun hc_151 => ?_) (fun hc_151 => ?_)
        · refine x_lload dX6_value_166 rfl ?_
          exact x_ls rfl (by first | rfl | (rw [if_pos hc_138, if_pos hc_151] <;> rfl) | (simp only [if_pos hc_138, if_pos hc_151]; rfl) | (simp only [if_pos hc_138, if_pos hc_151])) J168
        · refine x_lload dX6_value_154 rfl ?_
          refine x_aload_n dX6_value_156 rfl ?_
          refine x_iload_n dX6_value_157 rfl ?_
          refine x_callV (M' := mX6_left) (mc' := 0) (ms' := 0) (As := [.int ax]) dX6_value_158 gX6_value_X6_left okX6_left rfl rfl hM.1 rfl (Nat.le_of_ble_eq_true rfl) (Nat.le_of_ble_eq_true rfl) (Nat.le_refl _) (Nat.le_refl _) (Nat.le_refl _) ?_
          refine kX6_left hM hax ?_
          show xV _ _ _ _ _ _ _ _ _ _ _ _ _
          refine x_i2l dX6_value_161 ?_
          refine x_ladd dX6_value_162 ?_
          refine x_goto (tgt := 168) dX6_value_163 (by decide) ?_
          exact x_ls rfl (by first | rfl | (rw [if_pos hc_138, if_neg hc_151] <;> rfl) | (simp only [if_pos hc_138, if_neg hc_151]; rfl) | (simp only [if_pos hc_138, if_neg hc_151])) J168
    · refine x_ldc (v := (-2000000000)) dX6_value_116 (by decide +kernel) ?_
      exact x_iret dX6_value_118 rfl (xri (by unfold FX6_valT; rw [if_neg hc_113]) hQ)
  refine x_iload_n dX6_value_0 rfl ?_
  refine x_callS (M' := mX6_isAxis) (mc' := 0) (ms' := 0) (As := [.int ax]) dX6_value_1 gX6_value_X6_isAxis okX6_isAxis rfl rfl (Nat.le_of_ble_eq_true rfl) (Nat.le_of_ble_eq_true rfl) (Nat.le_refl _) (Nat.le_refl _) (Nat.le_refl _) ?_
  refine kX6_isAxis  ?_
  show xV _ _ _ _ _ _ _ _ _ _ _ _ _
  refine x_if_eq (tgt := 22) dX6_value_4 (by decide) (fun hc_4 => ?_) (fun hc_4 => ?_)
  · refine x_ldc (v := (-2000000000)) dX6_value_22 (by decide +kernel) ?_
    exact x_iret dX6_value_24 rfl (xri (by unfold FX6_value; rw [if_pos hc_4]) hQ)
  · refine x_iload_n dX6_value_7 rfl ?_
    refine x_iconst (v := 0) dX6_value_8 (by decide) ?_
    refine x_aload_n dX6_value_9 rfl ?_
    refine x_iload_n dX6_value_10 rfl ?_
    refine x_callV (M' := mX6_dots) (mc' := 0) (ms' := 0) (As := [.int ax]) dX6_value_11 gX6_value_X6_dots okX6_dots rfl rfl hM.1 rfl (Nat.le_of_ble_eq_true rfl) (Nat.le_of_ble_eq_true rfl) (Nat.le_refl _) (Nat.le_refl _) (Nat.le_refl _) ?_
    refine kX6_dots hM ?_
    show xV _ _ _ _ _ _ _ _ _ _ _ _ _
    refine x_iconst (v := 1) dX6_value_14 (by decide) ?_
    refine x_isub dX6_value_15 ?_
    refine x_callS (M' := mX6_in) (mc' := 0) (ms' := 0) (As := [.int dot, .int (0 : Int32), .int ((FX6_dots I V ax) - (1 : Int32))]) dX6_value_16 gX6_value_X6_in okX6_in rfl rfl (Nat.le_of_ble_eq_true rfl) (Nat.le_of_ble_eq_true rfl) (Nat.le_refl _) (Nat.le_refl _) (Nat.le_refl _) ?_
    refine kX6_in  ?_
    show xV _ _ _ _ _ _ _ _ _ _ _ _ _
    refine x_if_ne (tgt := 25) dX6_value_19 (by decide) (fun hc_19 => ?_) (fun hc_19 => ?_)
    · have hax := axis_in hc_4
      refine x_aload_n dX6_value_25 rfl ?_
      refine x_get 2 dX6_value_26 hM.1 rfl (by decide) (by decide +kernel) rfl ?_
      refine x_iload_n dX6_value_29 rfl ?_
      refine x_iald dX6_value_30 (hM.r 2 (by decide) (by decide)) hax ?_
      refine x_iconst (v := 1) dX6_value_31 (by decide) ?_
      have J48 : xV G l mX6_value (d + 4) 0 0 0 0 48 [.ref (A 0), .int ax, .int dot, xU, xU, xU, xU, xU, xU, xU] [.int (if ((V 2) (Int32.toNatClampNeg ax)) = (1 : Int32) then (((FX6_dots I V ax) - (1 : Int32)) - dot) else dot)] h Q := by
        refine x_ls (st' := [.int (mvD I V ax dot)]) rfl rfl ?_
        refine x_istore_n dX6_value_48 (by decide) rfl ?_
        refine x_lconst (v := 0) dX6_value_49 (by decide) ?_
        refine x_lstore dX6_value_50 (by decide) rfl ?_
        refine x_aload_n dX6_value_52 rfl ?_
        refine x_iload_n dX6_value_53 rfl ?_
        refine x_callV (M' := mX6_span) (mc' := 0) (ms' := 0) (As := [.int ax]) dX6_value_54 gX6_value_X6_span okX6_span rfl rfl hM.1 rfl (Nat.le_of_ble_eq_true rfl) (Nat.le_of_ble_eq_true rfl) (Nat.le_refl _) (Nat.le_refl _) (Nat.le_refl _) ?_
        refine kX6_span hM hax ?_
        show xV _ _ _ _ _ _ _ _ _ _ _ _ _
        refine x_lstore dX6_value_57 (by decide) rfl ?_
        rw [hsp hax]
        unfold FX6_value at hQ
        rw [if_neg hc_4, if_neg hc_19] at hQ
        refine xV.sub (L' := [.ref (A 0), .int ax, .int dot, .int (mvD I V ax dot), .long (qN 0), xU, .long (qN sp), xU, xU, xU]) ⟨Or.inr rfl, Or.inr rfl, Or.inr rfl, Or.inr rfl, Or.inr rfl, Or.inl rfl, Or.inr rfl, Or.inl rfl, Or.inl rfl, Or.inl rfl, trivial⟩ (loop hax (rest hax hQ) sp 0 sp (by omega) (by omega) (by omega) rfl)
      refine x_icmp_ne (tgt := 47) dX6_value_32 (by decide) (fun hc_32 => ?_) (fun hc_32 => ?_)
      · refine x_iload_n dX6_value_47 rfl ?_
        exact x_ls rfl (by first | rfl | (rw [if_neg hc_32] <;> rfl) | (simp only [if_neg hc_32]; rfl) | (simp only [if_neg hc_32])) J48
      · refine x_aload_n dX6_value_35 rfl ?_
        refine x_iload_n dX6_value_36 rfl ?_
        refine x_callV (M' := mX6_dots) (mc' := 0) (ms' := 0) (As := [.int ax]) dX6_value_37 gX6_value_X6_dots okX6_dots rfl rfl hM.1 rfl (Nat.le_of_ble_eq_true rfl) (Nat.le_of_ble_eq_true rfl) (Nat.le_refl _) (Nat.le_refl _) (Nat.le_refl _) ?_
        refine kX6_dots hM ?_
        show xV _ _ _ _ _ _ _ _ _ _ _ _ _
        refine x_iconst (v := 1) dX6_value_40 (by decide) ?_
        refine x_isub dX6_value_41 ?_
        refine x_iload_n dX6_value_42 rfl ?_
        refine x_isub dX6_value_43 ?_
        refine x_goto (tgt := 48) dX6_value_44 (by decide) ?_
        exact x_ls rfl (by first | rfl | (rw [if_pos hc_32] <;> rfl) | (simp only [if_pos hc_32]; rfl) | (simp only [if_pos hc_32])) J48
    · refine x_ldc (v := (-2000000000)) dX6_value_22 (by decide +kernel) ?_
      exact x_iret dX6_value_24 rfl (xri (by unfold FX6_value; rw [if_neg hc_4, if_pos hc_19]) hQ)
