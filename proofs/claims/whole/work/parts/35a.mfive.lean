theorem va_uu {α : Type} {f : Nat → α} {k : Nat} {a b : α} : va_up (va_up f k a) k b = va_up f k b := by
  funext q
  simp only [va_up]
  split <;> rfl
theorem nI_ofT {x : Int32} (h : 0 ≤ x.toInt) : x = nI x.toNatClampNeg := by
  have hb := x.toInt_lt
  refine Int32.toInt_inj.mp ?_
  unfold Int32.toNatClampNeg
  rw [nI_toInt (by omega)]
  omega
/-- v goes into the ordered row f of i numbers -/
def mins (v : Int32) : Nat → (Nat → Int32) → Nat → Int32
  | 0, f => upd f 0 v
  | i + 1, f => if f i ≤ v then upd f (i + 1) v else mins v i (upd f (i + 1) (f i))
def LX6_fiv (V : Nat → Nat → Int32) (k : Nat) : Nat → Nat → Nat × (Nat → Int32) → Nat × (Nat → Int32)
  | 0, _, z => z
  | n9 + 1, j, z => LX6_fiv V k n9 (j + 1) (if V 15 (24 * k + j) = 0 then (z.1 + 1, mins (V 13 (24 * k + j)) z.1 z.2) else z)
def FX6_fiv (V : Nat → Nat → Int32) (k : Nat) : Nat × (Nat → Int32) := LX6_fiv V k (V 11 k).toNatClampNeg 0 (0, V 25)
def FX6_five (V : Nat → Nat → Int32) (k : Nat) (w : Int32) : Int32 := if nI (FX6_fiv V k).1 = 0 then (-2000000000) else (FX6_fiv V k).2 (Int32.toNatClampNeg ((w * (nI (FX6_fiv V k).1 - 1)) / 4))
theorem rank_in {w : Int32} {n : Nat} (hw : ¬ FX6_in w 0 4 = 0) (hn : n ≤ 24) (h0 : ¬ nI n = 0) : vp_in ((w * (nI n - 1)) / 4) 24 := by
  have hw5 : vp_in w 5 := in_vp hw (by decide)
  obtain ⟨u, hu, rfl⟩ := vp_in_of hw5 (by decide)
  cases n with
  | zero => exact absurd rfl h0
  | succ n =>
    rw [nI_pred, pk_mul, vp_in_iff, Int32.toInt_div, nI_toInt (by have := Nat.mul_le_mul (Nat.le_of_lt_succ hu) (show n ≤ 23 by omega); omega)]
    have h1 := Nat.mul_le_mul (Nat.le_of_lt_succ hu) (show n ≤ 23 by omega)
    have e4 : (4 : Int32).toInt = 4 := rfl
    rw [e4]
    have h2 : (((u * n : Nat) : Int).tdiv 4) = ((u * n / 4 : Nat) : Int) := rfl
    rw [h2]
    have h3 : ((u * n / 4 : Nat) : Int).bmod (2 ^ 32) = ((u * n / 4 : Nat) : Int) := by
      rw [Int.bmod_def]; omega
    rw [h3]
    omega
set_option maxHeartbeats 4000000 in
set_option maxRecDepth 100000 in
theorem kX6_five {G : xG} {l : Launch} {d : Nat} {h : xH} {Q : Option Value → xH → Prop} {A : Nat → Nat} {I : xMi} {V : Nat → Nat → Int32} {s w : Int32} (hM : xMod G A I V h) (hA : ∀ {i j : Nat}, i ≠ j → A i ≠ A j) (h6 : I.2.2.1.toInt ≤ 6) (h0 : 0 ≤ I.2.2.1.toInt) (hpt : ∀ j, j < 6 → 0 ≤ (V 11 j).toInt ∧ (V 11 j).toInt ≤ 24) (hQ : (if (FX6_isSeries I V s) = 0 then Q (some (.int (-2000000000 : Int32))) h else (if (FX6_in w (0 : Int32) (4 : Int32)) = 0 then Q (some (.int (-2000000000 : Int32))) h else (∀ h', xMod G A I (va_up V 25 (FX6_fiv V (Int32.toNatClampNeg s)).2) h' → xfM A h h' → Q (some (.int (FX6_five V (Int32.toNatClampNeg s) w))) h')))) : xV G l mX6_five (d + 2) 0 0 0 0 0 [.ref (A 0), .int s, .int w, xU, xU, xU] [] h Q := by
  have inner : ∀ (k : Nat), k < 6 → ∀ (w : Int32) (j n : Nat), j < 24 → n < 24 → ∀ (i : Nat) (f : Nat → Int32) (h1 : xH), i ≤ n → xMod G A I (va_up V 25 f) h1 → xfM A h h1 → (∀ h2, xMod G A I (va_up V 25 (mins (V 13 (24 * k + j)) i f)) h2 → xfM A h h2 → xV G l mX6_five (d + 2) 0 0 0 0 117 [.ref (A 0), .int (nI k), .int w, .int (nI n), .int (nI (24 * k + j)), xU] [] h2 Q) → xV G l mX6_five (d + 2) 0 0 0 0 57 [.ref (A 0), .int (nI k), .int w, .int (nI n), .int (nI (24 * k + j)), .int (nI i)] [] h1 Q := by
    clear hM hQ
    intro k hk6 w j n hj hn i
    induction i with
    | zero =>
      intro f h1 hi hM hF hk
      refine x_iload dX6_five_57 rfl ?_
      refine x_if_le (tgt := 103) dX6_five_59 (by decide) (fun _ => ?_) (fun z9 => absurd (by decide) z9)
      refine x_aload_n dX6_five_103 rfl ?_
      refine x_get 25 dX6_five_104 hM.1 rfl (by decide) (by decide +kernel) rfl ?_
      refine x_iload dX6_five_107 rfl ?_
      refine x_aload_n dX6_five_109 rfl ?_
      refine x_get 13 dX6_five_110 hM.1 rfl (by decide) (by decide +kernel) rfl ?_
      refine x_iload dX6_five_113 rfl ?_
      refine x_iald dX6_five_115 (hM.r 13 (by decide) (by decide)) (vp_in_nI (N := 144) (by omega) (by decide)) ?_
      refine x_iast dX6_five_116 (hM.r 25 (by decide) (by decide)) (vp_in_nI (N := 24) (n := 0) (by decide) (by decide)) ?_
      have e0 : Int32.toNatClampNeg (nI 0) = 0 := nI_clamp (by omega)
      have ep : Int32.toNatClampNeg (nI (24 * k + j)) = 24 * k + j := nI_clamp (by omega)
      rw [e0, ep]
      have hM9 := hM.w hA 25 (by decide) (upd f 0 (V 13 (24 * k + j)))
      rw [va_uu] at hM9
      have hk := hk (xup h1 (A 25) (xRi G 24 (upd f 0 (V 13 (24 * k + j))))) (by rw [mins]; exact hM9) (hF.tr (fun a9 ha => by rw [xup_n (ha 25)]))
      refine xV.sub (L' := [.ref (A 0), .int (nI k), .int w, .int (nI n), .int (nI (24 * k + j)), xU]) ⟨Or.inr rfl, Or.inr rfl, Or.inr rfl, Or.inr rfl, Or.inr rfl, Or.inl rfl, trivial⟩ hk
    | succ i ih =>
      intro f h1 hi hM hF hk
      refine x_iload dX6_five_57 rfl ?_
      refine x_if_le (tgt := 103) dX6_five_59 (by decide) (fun z9 => absurd z9 (by rw [← nI_0]; exact nI_ge (by omega) (by omega))) (fun _ => ?_)
      refine x_aload_n dX6_five_62 rfl ?_
      refine x_get 25 dX6_five_63 hM.1 rfl (by decide) (by decide +kernel) rfl ?_
      refine x_iload dX6_five_66 rfl ?_
      refine x_iconst (v := 1) dX6_five_68 (by decide) ?_
      refine x_isub dX6_five_69 ?_
      refine x_iald dX6_five_70 (hM.r 25 (by decide) (by decide)) (by rw [nI_pred]; exact vp_in_nI (N := 24) (by omega) (by decide)) ?_
      refine x_aload_n dX6_five_71 rfl ?_
      refine x_get 13 dX6_five_72 hM.1 rfl (by decide) (by decide +kernel) rfl ?_
      refine x_iload dX6_five_75 rfl ?_
      refine x_iald dX6_five_77 (hM.r 13 (by decide) (by decide)) (vp_in_nI (N := 144) (by omega) (by decide)) ?_
      refine x_icmp_le (tgt := 103) dX6_five_78 (by decide) (fun hc_78 => ?_) (fun hc_78 => ?_)
      · refine x_aload_n dX6_five_103 rfl ?_
        refine x_get 25 dX6_five_104 hM.1 rfl (by decide) (by decide +kernel) rfl ?_
        refine x_iload dX6_five_107 rfl ?_
        refine x_aload_n dX6_five_109 rfl ?_
        refine x_get 13 dX6_five_110 hM.1 rfl (by decide) (by decide +kernel) rfl ?_
        refine x_iload dX6_five_113 rfl ?_
        refine x_iald dX6_five_115 (hM.r 13 (by decide) (by decide)) (vp_in_nI (N := 144) (by omega) (by decide)) ?_
        refine x_iast dX6_five_116 (hM.r 25 (by decide) (by decide)) (vp_in_nI (N := 24) (by omega) (by decide)) ?_
        have e1 : Int32.toNatClampNeg (nI (i + 1)) = i + 1 := nI_clamp (by omega)
        have ei : Int32.toNatClampNeg (nI (i + 1) - 1) = i := by rw [nI_pred, nI_clamp (by omega)]
        have ep : Int32.toNatClampNeg (nI (24 * k + j)) = 24 * k + j := nI_clamp (by omega)
        rw [e1, ep]
        rw [ei, ep] at hc_78
        change f i ≤ V 13 (24 * k + j) at hc_78
        have hM9 := hM.w hA 25 (by decide) (upd f (i + 1) (V 13 (24 * k + j)))
        rw [va_uu] at hM9
        have hk := hk (xup h1 (A 25) (xRi G 24 (upd f (i + 1) (V 13 (24 * k + j))))) (by rw [mins, if_pos hc_78]; exact hM9) (hF.tr (fun a9 ha => by rw [xup_n (ha 25)]))
        refine xV.sub (L' := [.ref (A 0), .int (nI k), .int w, .int (nI n), .int (nI (24 * k + j)), xU]) ⟨Or.inr rfl, Or.inr rfl, Or.inr rfl, Or.inr rfl, Or.inr rfl, Or.inl rfl, trivial⟩ hk
      · refine x_aload_n dX6_five_81 rfl ?_
        refine x_get 25 dX6_five_82 hM.1 rfl (by decide) (by decide +kernel) rfl ?_
        refine x_iload dX6_five_85 rfl ?_
        refine x_aload_n dX6_five_87 rfl ?_
        refine x_get 25 dX6_five_88 hM.1 rfl (by decide) (by decide +kernel) rfl ?_
        refine x_iload dX6_five_91 rfl ?_
        refine x_iconst (v := 1) dX6_five_93 (by decide) ?_
        refine x_isub dX6_five_94 ?_
        refine x_iald dX6_five_95 (hM.r 25 (by decide) (by decide)) (by rw [nI_pred]; exact vp_in_nI (N := 24) (by omega) (by decide)) ?_
        refine x_iast dX6_five_96 (hM.r 25 (by decide) (by decide)) (vp_in_nI (N := 24) (by omega) (by decide)) ?_
        refine x_iinc (v := (-1)) dX6_five_97 rfl (by decide) (by decide) rfl ?_
        refine x_goto (tgt := 57) dX6_five_100 (by decide) ?_
        have e1 : Int32.toNatClampNeg (nI (i + 1)) = i + 1 := nI_clamp (by omega)
        have ei : Int32.toNatClampNeg (nI (i + 1) - 1) = i := by rw [nI_pred, nI_clamp (by omega)]
        have ep : Int32.toNatClampNeg (nI (24 * k + j)) = 24 * k + j := nI_clamp (by omega)
        rw [e1, ei]
        rw [ei, ep] at hc_78
        change ¬ f i ≤ V 13 (24 * k + j) at hc_78
        have hM9 := hM.w hA 25 (by decide) (upd f (i + 1) (f i))
        rw [va_uu] at hM9
        refine xV.sub (L' := [.ref (A 0), .int (nI k), .int w, .int (nI n), .int (nI (24 * k + j)), .int (nI i)]) ⟨Or.inr rfl, Or.inr rfl, Or.inr rfl, Or.inr rfl, Or.inr rfl, Or.inr (congrArg Value.int ((xneg1 (i + 1)).trans (nI_pred i))), trivial⟩ (ih _ _ (by omega) hM9 (hF.tr (fun a9 ha => by rw [xup_n (ha 25)])) (fun h2 hM2 hF2 => hk h2 (by rw [mins, if_neg hc_78]; exact hM2) hF2))
  have outer : ∀ (k : Nat), k < 6 → ¬ FX6_in w 0 4 = 0 → (∀ h', xMod G A I (va_up V 25 (FX6_fiv V k).2) h' → xfM A h h' → Q (some (.int (FX6_five V k w))) h') → ∀ (n9 j n : Nat) (f : Nat → Int32) (h1 : xH), j + n9 = (V 11 k).toNatClampNeg → n ≤ j → LX6_fiv V k n9 j (n, f) = FX6_fiv V k → xMod G A I (va_up V 25 f) h1 → xfM A h h1 → xV G l mX6_five (d + 2) 0 0 0 0 28 [.ref (A 0), .int (nI k), .int w, .int (nI n), .int (nI (24 * k + j)), xU] [] h1 Q := by
    clear hM hQ
    intro k hk6 hw hQ n9
    have hp24 : (V 11 k).toNatClampNeg ≤ 24 := by have := hpt k hk6; unfold Int32.toNatClampNeg; omega
    induction n9 with
    | zero =>
      intro j n f h1 hj hn hf hM hF
      have e11 : V 11 (Int32.toNatClampNeg (nI k)) = nI (V 11 k).toNatClampNeg := by rw [nI_clamp (by omega)]; exact nI_ofT (hpt k hk6).1
      have eb : (24 : Int32) * nI k + (va_up V 25 f 11) (Int32.toNatClampNeg (nI k)) = nI (24 * k + (V 11 k).toNatClampNeg) := by
        show (24 : Int32) * nI k + V 11 (Int32.toNatClampNeg (nI k)) = _
        rw [e11, show (24 : Int32) = nI 24 from rfl, pk_mul, nI_add]
      refine x_iload dX6_five_28 rfl ?_
      refine x_bipush (v := 24) dX6_five_30 (by decide) ?_
      refine x_iload_n dX6_five_32 rfl ?_
      refine x_imul dX6_five_33 ?_
      refine x_aload_n dX6_five_34 rfl ?_
      refine x_get 11 dX6_five_35 hM.1 rfl (by decide) (by decide +kernel) rfl ?_
      refine x_iload_n dX6_five_38 rfl ?_
      refine x_iald dX6_five_39 (hM.r 11 (by decide) (by decide)) (vp_in_nI (N := 6) (by omega) (by decide)) ?_
      refine x_iadd dX6_five_40 ?_
      refine x_icmp_ge (tgt := 126) dX6_five_41 (by decide) (fun _ => ?_) (fun z9 => absurd (by rw [eb]; exact nI_le (by omega) (by omega)) z9)
      refine x_iload_n dX6_five_126 rfl ?_
      have J147 : xV G l mX6_five (d + 2) 0 0 0 0 147 [.ref (A 0), .int (nI k), .int w, .int (nI n), .int (nI (24 * k + j)), xU] [.int (if (nI n) = 0 then (-2000000000 : Int32) else ((va_up V 25 f 25) (Int32.toNatClampNeg ((w * ((nI n) - (1 : Int32))) / (4 : Int32)))))] h1 Q := by
        rw [LX6_fiv] at hf
        unfold FX6_five at hQ
        rw [← hf] at hQ
        exact x_iret dX6_five_147 rfl (hQ h1 hM hF)
      refine x_if_ne (tgt := 135) dX6_five_127 (by decide) (fun hc_127 => ?_) (fun hc_127 => ?_)
      · refine x_aload_n dX6_five_135 rfl ?_
        refine x_get 25 dX6_five_136 hM.1 rfl (by decide) (by decide +kernel) rfl ?_
        refine x_iload_n dX6_five_139 rfl ?_
        refine x_iload_n dX6_five_140 rfl ?_
        refine x_iconst (v := 1) dX6_five_141 (by decide) ?_
        refine x_isub dX6_five_142 ?_
        refine x_imul dX6_five_143 ?_
        refine x_iconst (v := 4) dX6_five_144 (by decide) ?_
        refine x_idiv dX6_five_145 (by decide) ?_
        refine x_iald dX6_five_146 (hM.r 25 (by decide) (by decide)) (rank_in hw (by omega) hc_127) ?_
        exact x_ls rfl (by first | rfl | (rw [if_neg hc_127] <;> rfl) | (simp only [if_neg hc_127]; rfl) | (simp only [if_neg hc_127])) J147
      · refine x_ldc (v := (-2000000000)) dX6_five_130 (by decide +kernel) ?_
        refine x_goto (tgt := 147) dX6_five_132 (by decide) ?_
        exact x_ls rfl (by first | rfl | (rw [if_pos hc_127] <;> rfl) | (simp only [if_pos hc_127]; rfl) | (simp only [if_pos hc_127])) J147
    | succ n9 ih =>
      intro j n f h1 hj hn hf hM hF
      have e11 : V 11 (Int32.toNatClampNeg (nI k)) = nI (V 11 k).toNatClampNeg := by rw [nI_clamp (by omega)]; exact nI_ofT (hpt k hk6).1
      have eb : (24 : Int32) * nI k + (va_up V 25 f 11) (Int32.toNatClampNeg (nI k)) = nI (24 * k + (V 11 k).toNatClampNeg) := by
        show (24 : Int32) * nI k + V 11 (Int32.toNatClampNeg (nI k)) = _
        rw [e11, show (24 : Int32) = nI 24 from rfl, pk_mul, nI_add]
      refine x_iload dX6_five_28 rfl ?_
      refine x_bipush (v := 24) dX6_five_30 (by decide) ?_
      refine x_iload_n dX6_five_32 rfl ?_
      refine x_imul dX6_five_33 ?_
      refine x_aload_n dX6_five_34 rfl ?_
      refine x_get 11 dX6_five_35 hM.1 rfl (by decide) (by decide +kernel) rfl ?_
      refine x_iload_n dX6_five_38 rfl ?_
      refine x_iald dX6_five_39 (hM.r 11 (by decide) (by decide)) (vp_in_nI (N := 6) (by omega) (by decide)) ?_
      refine x_iadd dX6_five_40 ?_
      refine x_icmp_ge (tgt := 126) dX6_five_41 (by decide) (fun z9 => absurd z9 (by rw [eb]; exact nI_ge (by omega) (by omega))) (fun _ => ?_)
      refine x_aload_n dX6_five_44 rfl ?_
      refine x_get 15 dX6_five_45 hM.1 rfl (by decide) (by decide +kernel) rfl ?_
      refine x_iload dX6_five_48 rfl ?_
      refine x_zald dX6_five_50 hM.z (vp_in_nI (N := 144) (by omega) (by decide)) ?_
      refine x_if_ne (tgt := 120) dX6_five_51 (by decide) (fun hc_51 => ?_) (fun hc_51 => ?_)
      · refine x_iinc (v := 1) dX6_five_120 rfl (by decide) (by decide) rfl ?_
        refine x_goto (tgt := 28) dX6_five_123 (by decide) ?_
        rw [nI_clamp (by omega)] at hc_51
        rw [LX6_fiv, if_neg (show ¬ V 15 (24 * k + j) = 0 from hc_51)] at hf
        refine xV.sub (L' := [.ref (A 0), .int (nI k), .int w, .int (nI n), .int (nI (24 * k + (j + 1))), xU]) ⟨Or.inr rfl, Or.inr rfl, Or.inr rfl, Or.inr rfl, Or.inr (congrArg Value.int (by rw [nI_1]; rfl)), Or.inl rfl, trivial⟩ (ih (j + 1) n f h1 (by omega) (by omega) hf hM hF)
      · refine x_iload_n dX6_five_54 rfl ?_
        refine x_istore dX6_five_55 (by decide) rfl ?_
        rw [nI_clamp (by omega)] at hc_51
        rw [LX6_fiv, if_pos (show V 15 (24 * k + j) = 0 from hc_51)] at hf
        refine inner k hk6 w j n (by omega) (by omega) n f h1 (Nat.le_refl _) hM hF (fun h2 hM2 hF2 => ?_)
        refine x_iinc (v := 1) dX6_five_117 rfl (by decide) (by decide) rfl ?_
        refine x_iinc (v := 1) dX6_five_120 rfl (by decide) (by decide) rfl ?_
        refine x_goto (tgt := 28) dX6_five_123 (by decide) ?_
        refine xV.sub (L' := [.ref (A 0), .int (nI k), .int w, .int (nI (n + 1)), .int (nI (24 * k + (j + 1))), xU]) ⟨Or.inr rfl, Or.inr rfl, Or.inr rfl, Or.inr (congrArg Value.int (nI_1 n)), Or.inr (congrArg Value.int (by rw [nI_1]; rfl)), Or.inl rfl, trivial⟩ (ih (j + 1) _ _ h2 (by omega) (by omega) hf hM2 hF2)
  refine x_aload_n dX6_five_0 rfl ?_
  refine x_iload_n dX6_five_1 rfl ?_
  refine x_callV (M' := mX6_isSeries) (mc' := 0) (ms' := 0) (As := [.int s]) dX6_five_2 gX6_five_X6_isSeries okX6_isSeries rfl rfl hM.1 rfl (Nat.le_of_ble_eq_true rfl) (Nat.le_of_ble_eq_true rfl) (Nat.le_refl _) (Nat.le_refl _) (Nat.le_refl _) ?_
  refine kX6_isSeries hM  ?_
  show xV _ _ _ _ _ _ _ _ _ _ _ _ _
  refine x_if_eq (tgt := 17) dX6_five_5 (by decide) (fun hc_5 => ?_) (fun hc_5 => ?_)
  · refine x_ldc (v := (-2000000000)) dX6_five_17 (by decide +kernel) ?_
    rw [if_pos hc_5] at hQ
    exact x_iret dX6_five_19 rfl hQ
  · refine x_iload_n dX6_five_8 rfl ?_
    refine x_iconst (v := 0) dX6_five_9 (by decide) ?_
    refine x_iconst (v := 4) dX6_five_10 (by decide) ?_
    refine x_callS (M' := mX6_in) (mc' := 0) (ms' := 0) (As := [.int w, .int (0 : Int32), .int (4 : Int32)]) dX6_five_11 gX6_five_X6_in okX6_in rfl rfl (Nat.le_of_ble_eq_true rfl) (Nat.le_of_ble_eq_true rfl) (Nat.le_refl _) (Nat.le_refl _) (Nat.le_refl _) ?_
    refine kX6_in  ?_
    show xV _ _ _ _ _ _ _ _ _ _ _ _ _
    refine x_if_ne (tgt := 20) dX6_five_14 (by decide) (fun hc_14 => ?_) (fun hc_14 => ?_)
    · refine x_iconst (v := 0) dX6_five_20 (by decide) ?_
      refine x_istore_n dX6_five_21 (by decide) rfl ?_
      refine x_bipush (v := 24) dX6_five_22 (by decide) ?_
      refine x_iload_n dX6_five_24 rfl ?_
      refine x_imul dX6_five_25 ?_
      refine x_istore dX6_five_26 (by decide) rfl ?_
      rw [if_neg hc_5, if_neg hc_14] at hQ
      obtain ⟨k, hk6, rfl⟩ := vp_in_of (ser_in h6 h0 hc_5) (by decide)
      rw [nI_clamp (by omega)] at hQ
      have hM1 := hM
      rw [← xups (f := V) (k := 25)] at hM1
      refine xV.sub (L' := [.ref (A 0), .int (nI k), .int w, .int (nI 0), .int (nI (24 * k + 0)), xU]) ⟨Or.inr rfl, Or.inr rfl, Or.inr rfl, Or.inr (congrArg Value.int nI_0.symm), Or.inr (congrArg Value.int (by rw [show (24 : Int32) = nI 24 from rfl, pk_mul]; rfl)), Or.inl rfl, trivial⟩ (outer k hk6 hc_14 hQ _ 0 0 (V 25) h (by omega) (by omega) rfl hM1 xfM.rf)
    · refine x_ldc (v := (-2000000000)) dX6_five_17 (by decide +kernel) ?_
      rw [if_neg hc_5, if_pos hc_14] at hQ
      exact x_iret dX6_five_19 rfl hQ
