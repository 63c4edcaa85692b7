/-- the corner where least is covered: cv k cells at corner k -/
def lgM (cv : Nat → Int32) : Nat → Nat → Int32 → Int32 → Int32
  | 0, _, b, _ => b
  | n9 + 1, k, b, ls => lgM cv n9 (k + 1) (if ls ≤ cv k then b else nI k) (if ls ≤ cv k then ls else cv k)
def lgA (cn w k : Nat) : Nat := if k % 2 = 0 then 0 else cn - w
def lgB (rn g k : Nat) : Nat := if k < 2 then 0 else rn - g
def FX6_legend (I : xMi) (V : Nat → Nat → Int32) (cn rn w g : Nat) : Int32 := lgM (fun k => LX6_cvO I V (lgA cn w k) w g (lgB rn g k) 0) 4 0 0 641
def FX5_legend (p : xPv) (n : Int32) (U : Nat → Nat → Int32) (N : Nat) (I : Nat → xSi) (V : Nat → Nat → Nat → Int32) (cn rn w g : Nat) : Int32 := lgM (fun k => FX5_coveredWithin p n U N I V (lgA cn w k) (lgB rn g k) w g) 4 0 0 641
set_option maxHeartbeats 4000000 in
set_option maxRecDepth 100000 in
theorem kX6_legendT {G : xG} {l : Launch} {d : Nat} {h : xH} {Q : Option Value → xH → Prop} {A : Nat → Nat} {I : xMi} {V : Nat → Nat → Int32} {w g : Nat} (hM : xMod G A I V h) {cn rn : Nat} (h6 : I.2.2.1.toInt ≤ 6) (hl20 : I.2.2.2.1 ≤ 20) (hcn : I.1 = nI cn) (hrn : I.2.1 = nI rn) (hc40 : cn ≤ 40) (hr16 : rn ≤ 16) (hwc : w ≤ cn) (hgr : g ≤ rn) (hQ : Q (some (.int (FX6_legend I V cn rn w g))) h) : xV G l mX6_legend (d + 8) 0 0 0 0 40 [.ref (A 0), .int (nI w), .int (nI g), .int 0, .int 641, .int (nI 0), xU, xU, xU, xU, xU] [] h Q := by
  have inner : ∀ (a b : Nat) (bs ls kk : Int32), a + w ≤ cn → ∀ (n9 j : Nat) (ac : Int32) (r : Nat), j + n9 = a + w → r < rn → xV G l mX6_legend (d + 8) 0 0 0 0 141 [.ref (A 0), .int (nI w), .int (nI g), .int bs, .int ls, .int kk, .int (nI a), .int (nI b), .int (LX6_cvI I V r n9 j ac), .int (nI r), xU] [] h Q → xV G l mX6_legend (d + 8) 0 0 0 0 103 [.ref (A 0), .int (nI w), .int (nI g), .int bs, .int ls, .int kk, .int (nI a), .int (nI b), .int ac, .int (nI r), .int (nI j)] [] h Q := by
    clear hQ
    intro a b bs ls kk ha n9 j ac r hj hr
    revert j ac
    induction n9 with
    | zero =>
      intro j ac hj hk
      rw [LX6_cvI] at hk
      refine x_iload dX6_legend_103 rfl ?_
      refine x_iload dX6_legend_105 rfl ?_
      refine x_iload_n dX6_legend_107 rfl ?_
      refine x_iadd dX6_legend_108 ?_
      refine x_icmp_ge (tgt := 141) dX6_legend_109 (by decide) (fun _ => ?_) (fun z9 => absurd (by rw [nI_add]; exact nI_le (by omega) (by omega)) z9)
      refine xV.sub (L' := [.ref (A 0), .int (nI w), .int (nI g), .int bs, .int ls, .int kk, .int (nI a), .int (nI b), .int ac, .int (nI r), xU]) ⟨Or.inr rfl, Or.inr rfl, Or.inr rfl, Or.inr rfl, Or.inr rfl, Or.inr rfl, Or.inr rfl, Or.inr rfl, Or.inr rfl, Or.inr rfl, Or.inl rfl, trivial⟩ hk
    | succ n9 ih =>
      intro j ac hj hk
      rw [LX6_cvI] at hk
      refine x_iload dX6_legend_103 rfl ?_
      refine x_iload dX6_legend_105 rfl ?_
      refine x_iload_n dX6_legend_107 rfl ?_
      refine x_iadd dX6_legend_108 ?_
      refine x_icmp_ge (tgt := 141) dX6_legend_109 (by decide) (fun z9 => absurd z9 (by rw [nI_add]; exact nI_ge (by omega) (by omega))) (fun _ => ?_)
      refine x_iload dX6_legend_112 rfl ?_
      refine x_aload_n dX6_legend_114 rfl ?_
      refine x_iload dX6_legend_115 rfl ?_
      refine x_iload dX6_legend_117 rfl ?_
      refine x_callV (M' := mX6_signAt) (mc' := 0) (ms' := 0) (As := [.int (nI j), .int (nI r)]) dX6_legend_119 gX6_legend_X6_signAt okX6_signAt rfl rfl hM.1 rfl (Nat.le_of_ble_eq_true rfl) (Nat.le_of_ble_eq_true rfl) (Nat.le_refl _) (Nat.le_refl _) (Nat.le_refl _) ?_
      refine kX6_signAt hM h6 hl20 (mcr_inI hcn hc40 hr16 (by omega) (by omega)) ?_
      show xV _ _ _ _ _ _ _ _ _ _ _ _ _
      refine x_bipush (v := 32) dX6_legend_122 (by decide) ?_
      have J132 : xV G l mX6_legend (d + 8) 0 0 0 0 132 [.ref (A 0), .int (nI w), .int (nI g), .int bs, .int ls, .int kk, .int (nI a), .int (nI b), .int ac, .int (nI r), .int (nI j)] [.int (if (FX6_signAt I V (nI j) (nI r)) = (32 : Int32) then (0 : Int32) else (1 : Int32)), .int ac] h Q := by
        refine x_iadd dX6_legend_132 ?_
        refine x_istore dX6_legend_133 (by decide) rfl ?_
        refine x_iinc (v := 1) dX6_legend_135 rfl (by decide) (by decide) rfl ?_
        refine x_goto (tgt := 103) dX6_legend_138 (by decide) ?_
        refine xV.sub (L' := [.ref (A 0), .int (nI w), .int (nI g), .int bs, .int ls, .int kk, .int (nI a), .int (nI b), .int (ac + (if (FX6_signAt I V (nI j) (nI r)) = (32 : Int32) then (0 : Int32) else (1 : Int32))), .int (nI r), .int (nI (j + 1))]) ⟨Or.inr rfl, Or.inr rfl, Or.inr rfl, Or.inr rfl, Or.inr rfl, Or.inr rfl, Or.inr rfl, Or.inr rfl, Or.inr rfl, Or.inr rfl, Or.inr (congrArg Value.int (nI_1 j)), trivial⟩ (ih (j + 1) (ac + (if (FX6_signAt I V (nI j) (nI r)) = (32 : Int32) then (0 : Int32) else (1 : Int32))) (by omega) hk)
      refine x_icmp_eq (tgt := 131) dX6_legend_124 (by decide) (fun hc_124 => ?_) (fun hc_124 => ?_)
      · refine x_iconst (v := 0) dX6_legend_131 (by decide) ?_
        exact x_ls rfl (by first | rfl | (rw [if_pos hc_124] <;> rfl) | (simp only [if_pos hc_124]; rfl) | (simp only [if_pos hc_124])) J132
      · refine x_iconst (v := 1) dX6_legend_127 (by decide) ?_
        refine x_goto (tgt := 132) dX6_legend_128 (by decide) ?_
        exact x_ls rfl (by first | rfl | (rw [if_neg hc_124] <;> rfl) | (simp only [if_neg hc_124]; rfl) | (simp only [if_neg hc_124])) J132
  have outer : ∀ (a b : Nat) (bs ls kk : Int32), a + w ≤ cn → b + g ≤ rn → ∀ (n9 r : Nat) (ac : Int32), r + n9 = b + g → xV G l mX6_legend (d + 8) 0 0 0 0 147 [.ref (A 0), .int (nI w), .int (nI g), .int bs, .int ls, .int kk, .int (nI a), .int (nI b), .int (LX6_cvO I V a w n9 r ac), xU, xU] [] h Q → xV G l mX6_legend (d + 8) 0 0 0 0 90 [.ref (A 0), .int (nI w), .int (nI g), .int bs, .int ls, .int kk, .int (nI a), .int (nI b), .int ac, .int (nI r), xU] [] h Q := by
    clear hQ
    intro a b bs ls kk ha hb n9
    induction n9 with
    | zero =>
      intro r ac hr hk
      rw [LX6_cvO] at hk
      refine x_iload dX6_legend_90 rfl ?_
      refine x_iload dX6_legend_92 rfl ?_
      refine x_iload_n dX6_legend_94 rfl ?_
      refine x_iadd dX6_legend_95 ?_
      refine x_icmp_ge (tgt := 147) dX6_legend_96 (by decide) (fun _ => ?_) (fun z9 => absurd (by rw [nI_add]; exact nI_le (by omega) (by omega)) z9)
      refine xV.sub (L' := [.ref (A 0), .int (nI w), .int (nI g), .int bs, .int ls, .int kk, .int (nI a), .int (nI b), .int ac, xU, xU]) ⟨Or.inr rfl, Or.inr rfl, Or.inr rfl, Or.inr rfl, Or.inr rfl, Or.inr rfl, Or.inr rfl, Or.inr rfl, Or.inr rfl, Or.inl rfl, Or.inl rfl, trivial⟩ hk
    | succ n9 ih =>
      intro r ac hr hk
      rw [LX6_cvO] at hk
      refine x_iload dX6_legend_90 rfl ?_
      refine x_iload dX6_legend_92 rfl ?_
      refine x_iload_n dX6_legend_94 rfl ?_
      refine x_iadd dX6_legend_95 ?_
      refine x_icmp_ge (tgt := 147) dX6_legend_96 (by decide) (fun z9 => absurd z9 (by rw [nI_add]; exact nI_ge (by omega) (by omega))) (fun _ => ?_)
      refine x_iload dX6_legend_99 rfl ?_
      refine x_istore dX6_legend_101 (by decide) rfl ?_
      refine inner a b bs ls kk ha w a ac r (by omega) (by omega) ?_
      refine x_iinc (v := 1) dX6_legend_141 rfl (by decide) (by decide) rfl ?_
      refine x_goto (tgt := 90) dX6_legend_144 (by decide) ?_
      refine xV.sub (L' := [.ref (A 0), .int (nI w), .int (nI g), .int bs, .int ls, .int kk, .int (nI a), .int (nI b), .int (LX6_cvI I V r w a ac), .int (nI (r + 1)), xU]) ⟨Or.inr rfl, Or.inr rfl, Or.inr rfl, Or.inr rfl, Or.inr rfl, Or.inr rfl, Or.inr rfl, Or.inr rfl, Or.inr rfl, Or.inr (congrArg Value.int (nI_1 r)), Or.inl rfl, trivial⟩ (ih (r + 1) _ (by omega) hk)
  have s0 : ∀ (bs ls : Int32), xV G l mX6_legend (d + 8) 0 0 0 0 40 [.ref (A 0), .int (nI w), .int (nI g), .int (if ls ≤ (LX6_cvO I V 0 w g 0 0) then bs else nI 0), .int (if ls ≤ (LX6_cvO I V 0 w g 0 0) then ls else (LX6_cvO I V 0 w g 0 0)), .int (nI 1), xU, xU, xU, xU, xU] [] h Q → xV G l mX6_legend (d + 8) 0 0 0 0 40 [.ref (A 0), .int (nI w), .int (nI g), .int bs, .int ls, .int (nI 0), xU, xU, xU, xU, xU] [] h Q := by
    clear hQ
    intro bs ls hk
    refine x_iload dX6_legend_40 rfl ?_
    refine x_iconst (v := 4) dX6_legend_42 (by decide) ?_
    refine x_icmp_ge (tgt := 183) dX6_legend_43 (by decide) (fun z9 => absurd z9 (by decide)) (fun _ => ?_)
    refine x_iload dX6_legend_46 rfl ?_
    refine x_iconst (v := 2) dX6_legend_48 (by decide) ?_
    refine x_irem dX6_legend_49 (by decide) ?_
    refine x_if_ne (tgt := 57) dX6_legend_50 (by decide) (fun z9 => absurd (by decide) z9) (fun _ => ?_)
    refine x_iconst (v := 0) dX6_legend_53 (by decide) ?_
    refine x_goto (tgt := 63) dX6_legend_54 (by decide) ?_
    refine x_ls (st' := [.int (nI 0)]) rfl rfl ?_
    refine x_istore dX6_legend_63 (by decide) rfl ?_
    refine x_iload dX6_legend_65 rfl ?_
    refine x_iconst (v := 2) dX6_legend_67 (by decide) ?_
    refine x_icmp_ge (tgt := 75) dX6_legend_68 (by decide) (fun z9 => absurd z9 (by decide)) (fun _ => ?_)
    refine x_iconst (v := 0) dX6_legend_71 (by decide) ?_
    refine x_goto (tgt := 81) dX6_legend_72 (by decide) ?_
    refine x_ls (st' := [.int (nI 0)]) rfl rfl ?_
    refine x_istore dX6_legend_81 (by decide) rfl ?_
    refine x_iconst (v := 0) dX6_legend_83 (by decide) ?_
    refine x_istore dX6_legend_84 (by decide) rfl ?_
    refine x_iload dX6_legend_86 rfl ?_
    refine x_istore dX6_legend_88 (by decide) rfl ?_
    refine xV.sub (L' := [.ref (A 0), .int (nI w), .int (nI g), .int bs, .int ls, .int (nI 0), .int (nI 0), .int (nI 0), .int 0, .int (nI 0), xU]) ⟨Or.inr rfl, Or.inr rfl, Or.inr rfl, Or.inr rfl, Or.inr rfl, Or.inr rfl, Or.inr rfl, Or.inr rfl, Or.inr rfl, Or.inr rfl, Or.inl rfl, trivial⟩ (outer 0 0 bs ls _ (by omega) (by omega) g 0 0 rfl ?_)
    refine x_iload dX6_legend_147 rfl ?_
    refine x_iload dX6_legend_149 rfl ?_
    have J160 : xV G l mX6_legend (d + 8) 0 0 0 0 160 [.ref (A 0), .int (nI w), .int (nI g), .int bs, .int ls, .int (nI 0), .int (nI 0), .int (nI 0), .int (LX6_cvO I V 0 w g 0 0), xU, xU] [.int (if ls ≤ (LX6_cvO I V 0 w g 0 0) then bs else (nI 0))] h Q := by
      refine x_istore_n dX6_legend_160 (by decide) rfl ?_
      refine x_iload dX6_legend_161 rfl ?_
      refine x_iload dX6_legend_163 rfl ?_
      have J175 : xV G l mX6_legend (d + 8) 0 0 0 0 175 [.ref (A 0), .int (nI w), .int (nI g), .int (if ls ≤ (LX6_cvO I V 0 w g 0 0) then bs else (nI 0)), .int ls, .int (nI 0), .int (nI 0), .int (nI 0), .int (LX6_cvO I V 0 w g 0 0), xU, xU] [.int (if ls ≤ (LX6_cvO I V 0 w g 0 0) then ls else (LX6_cvO I V 0 w g 0 0))] h Q := by
        refine x_istore dX6_legend_175 (by decide) rfl ?_
        refine x_iinc (v := 1) dX6_legend_177 rfl (by decide) (by decide) rfl ?_
        refine x_goto (tgt := 40) dX6_legend_180 (by decide) ?_
        refine xV.sub (L' := [.ref (A 0), .int (nI w), .int (nI g), .int (if ls ≤ (LX6_cvO I V 0 w g 0 0) then bs else (nI 0)), .int (if ls ≤ (LX6_cvO I V 0 w g 0 0) then ls else (LX6_cvO I V 0 w g 0 0)), .int (nI 1), xU, xU, xU, xU, xU]) ⟨Or.inr rfl, Or.inr rfl, Or.inr rfl, Or.inr rfl, Or.inr rfl, Or.inr (congrArg Value.int (nI_1 0)), Or.inl rfl, Or.inl rfl, Or.inl rfl, Or.inl rfl, Or.inl rfl, trivial⟩ hk
      refine x_icmp_ge (tgt := 173) dX6_legend_165 (by decide) (fun hc_165 => ?_) (fun hc_165 => ?_)
      · refine x_iload dX6_legend_173 rfl ?_
        exact x_ls rfl (by first | rfl | (rw [if_pos hc_165] <;> rfl) | (simp only [if_pos hc_165]; rfl) | (simp only [if_pos hc_165])) J175
      · refine x_iload dX6_legend_168 rfl ?_
        refine x_goto (tgt := 175) dX6_legend_170 (by decide) ?_
        exact x_ls rfl (by first | rfl | (rw [if_neg hc_165] <;> rfl) | (simp only [if_neg hc_165]; rfl) | (simp only [if_neg hc_165])) J175
    refine x_icmp_ge (tgt := 159) dX6_legend_151 (by decide) (fun hc_151 => ?_) (fun hc_151 => ?_)
    · refine x_iload_n dX6_legend_159 rfl ?_
      exact x_ls rfl (by first | rfl | (rw [if_pos hc_151] <;> rfl) | (simp only [if_pos hc_151]; rfl) | (simp only [if_pos hc_151])) J160
    · refine x_iload dX6_legend_154 rfl ?_
      refine x_goto (tgt := 160) dX6_legend_156 (by decide) ?_
      exact x_ls rfl (by first | rfl | (rw [if_neg hc_151] <;> rfl) | (simp only [if_neg hc_151]; rfl) | (simp only [if_neg hc_151])) J160
  have s1 : ∀ (bs ls : Int32), xV G l mX6_legend (d + 8) 0 0 0 0 40 [.ref (A 0), .int (nI w), .int (nI g), .int (if ls ≤ (LX6_cvO I V (cn - w) w g 0 0) then bs else nI 1), .int (if ls ≤ (LX6_cvO I V (cn - w) w g 0 0) then ls else (LX6_cvO I V (cn - w) w g 0 0)), .int (nI 2), xU, xU, xU, xU, xU] [] h Q → xV G l mX6_legend (d + 8) 0 0 0 0 40 [.ref (A 0), .int (nI w), .int (nI g), .int bs, .int ls, .int (nI 1), xU, xU, xU, xU, xU] [] h Q := by
    clear hQ
    intro bs ls hk
    refine x_iload dX6_legend_40 rfl ?_
    refine x_iconst (v := 4) dX6_legend_42 (by decide) ?_
    refine x_icmp_ge (tgt := 183) dX6_legend_43 (by decide) (fun z9 => absurd z9 (by decide)) (fun _ => ?_)
    refine x_iload dX6_legend_46 rfl ?_
    refine x_iconst (v := 2) dX6_legend_48 (by decide) ?_
    refine x_irem dX6_legend_49 (by decide) ?_
    refine x_if_ne (tgt := 57) dX6_legend_50 (by decide) (fun _ => ?_) (fun z9 => absurd z9 (by decide))
    refine x_aload_n dX6_legend_57 rfl ?_
    refine x_get 0 dX6_legend_58 hM.1 rfl (by decide) (by decide +kernel) rfl ?_
    refine x_iload_n dX6_legend_61 rfl ?_
    refine x_isub dX6_legend_62 ?_
    refine x_ls (st' := [.int (nI (cn - w))]) rfl (by rw [hcn, pk_sub hwc]) ?_
    refine x_istore dX6_legend_63 (by decide) rfl ?_
    refine x_iload dX6_legend_65 rfl ?_
    refine x_iconst (v := 2) dX6_legend_67 (by decide) ?_
    refine x_icmp_ge (tgt := 75) dX6_legend_68 (by decide) (fun z9 => absurd z9 (by decide)) (fun _ => ?_)
    refine x_iconst (v := 0) dX6_legend_71 (by decide) ?_
    refine x_goto (tgt := 81) dX6_legend_72 (by decide) ?_
    refine x_ls (st' := [.int (nI 0)]) rfl rfl ?_
    refine x_istore dX6_legend_81 (by decide) rfl ?_
    refine x_iconst (v := 0) dX6_legend_83 (by decide) ?_
    refine x_istore dX6_legend_84 (by decide) rfl ?_
    refine x_iload dX6_legend_86 rfl ?_
    refine x_istore dX6_legend_88 (by decide) rfl ?_
    refine xV.sub (L' := [.ref (A 0), .int (nI w), .int (nI g), .int bs, .int ls, .int (nI 1), .int (nI (cn - w)), .int (nI 0), .int 0, .int (nI 0), xU]) ⟨Or.inr rfl, Or.inr rfl, Or.inr rfl, Or.inr rfl, Or.inr rfl, Or.inr rfl, Or.inr rfl, Or.inr rfl, Or.inr rfl, Or.inr rfl, Or.inl rfl, trivial⟩ (outer (cn - w) 0 bs ls _ (by omega) (by omega) g 0 0 rfl ?_)
    refine x_iload dX6_legend_147 rfl ?_
    refine x_iload dX6_legend_149 rfl ?_
    have J160 : xV G l mX6_legend (d + 8) 0 0 0 0 160 [.ref (A 0), .int (nI w), .int (nI g), .int bs, .int ls, .int (nI 1), .int (nI (cn - w)), .int (nI 0), .int (LX6_cvO I V (cn - w) w g 0 0), xU, xU] [.int (if ls ≤ (LX6_cvO I V (cn - w) w g 0 0) then bs else (nI 1))] h Q := by
      refine x_istore_n dX6_legend_160 (by decide) rfl ?_
      refine x_iload dX6_legend_161 rfl ?_
      refine x_iload dX6_legend_163 rfl ?_
      have J175 : xV G l mX6_legend (d + 8) 0 0 0 0 175 [.ref (A 0), .int (nI w), .int (nI g), .int (if ls ≤ (LX6_cvO I V (cn - w) w g 0 0) then bs else (nI 1)), .int ls, .int (nI 1), .int (nI (cn - w)), .int (nI 0), .int (LX6_cvO I V (cn - w) w g 0 0), xU, xU] [.int (if ls ≤ (LX6_cvO I V (cn - w) w g 0 0) then ls else (LX6_cvO I V (cn - w) w g 0 0))] h Q := by
        refine x_istore dX6_legend_175 (by decide) rfl ?_
        refine x_iinc (v := 1) dX6_legend_177 rfl (by decide) (by decide) rfl ?_
        refine x_goto (tgt := 40) dX6_legend_180 (by decide) ?_
        refine xV.sub (L' := [.ref (A 0), .int (nI w), .int (nI g), .int (if ls ≤ (LX6_cvO I V (cn - w) w g 0 0) then bs else (nI 1)), .int (if ls ≤ (LX6_cvO I V (cn - w) w g 0 0) then ls else (LX6_cvO I V (cn - w) w g 0 0)), .int (nI 2), xU, xU, xU, xU, xU]) ⟨Or.inr rfl, Or.inr rfl, Or.inr rfl, Or.inr rfl, Or.inr rfl, Or.inr (congrArg Value.int (nI_1 1)), Or.inl rfl, Or.inl rfl, Or.inl rfl, Or.inl rfl, Or.inl rfl, trivial⟩ hk
      refine x_icmp_ge (tgt := 173) dX6_legend_165 (by decide) (fun hc_165 => ?_) (fun hc_165 => ?_)
      · refine x_iload dX6_legend_173 rfl ?_
        exact x_ls rfl (by first | rfl | (rw [if_pos hc_165] <;> rfl) | (simp only [if_pos hc_165]; rfl) | (simp only [if_pos hc_165])) J175
      · refine x_iload dX6_legend_168 rfl ?_
        refine x_goto (tgt := 175) dX6_legend_170 (by decide) ?_
        exact x_ls rfl (by first | rfl | (rw [if_neg hc_165] <;> rfl) | (simp only [if_neg hc_165]; rfl) | (simp only [if_neg hc_165])) J175
    refine x_icmp_ge (tgt := 159) dX6_legend_151 (by decide) (fun hc_151 => ?_) (fun hc_151 => ?_)
    · refine x_iload_n dX6_legend_159 rfl ?_
      exact x_ls rfl (by first | rfl | (rw [if_pos hc_151] <;> rfl) | (simp only [if_pos hc_151]; rfl) | (simp only [if_pos hc_151])) J160
    · refine x_iload dX6_legend_154 rfl ?_
      refine x_goto (tgt := 160) dX6_legend_156 (by decide) ?_
      exact x_ls rfl (by first | rfl | (rw [if_neg hc_151] <;> rfl) | (simp only [if_neg hc_151]; rfl) | (simp only [if_neg hc_151])) J160
  have s2 : ∀ (bs ls : Int32), xV G l mX6_legend (d + 8) 0 0 0 0 40 [.ref (A 0), .int (nI w), .int (nI g), .int (if ls ≤ (LX6_cvO I V 0 w g (rn - g) 0) then bs else nI 2), .int (if ls ≤ (LX6_cvO I V 0 w g (rn - g) 0) then ls else (LX6_cvO I V 0 w g (rn - g) 0)), .int (nI 3), xU, xU, xU, xU, xU] [] h Q → xV G l mX6_legend (d + 8) 0 0 0 0 40 [.ref (A 0), .int (nI w), .int (nI g), .int bs, .int ls, .int (nI 2), xU, xU, xU, xU, xU] [] h Q := by
    clear hQ
    intro bs ls hk
    refine x_iload dX6_legend_40 rfl ?_
    refine x_iconst (v := 4) dX6_legend_42 (by decide) ?_
    refine x_icmp_ge (tgt := 183) dX6_legend_43 (by decide) (fun z9 => absurd z9 (by decide)) (fun _ => ?_)
    refine x_iload dX6_legend_46 rfl ?_
    refine x_iconst (v := 2) dX6_legend_48 (by decide) ?_
    refine x_irem dX6_legend_49 (by decide) ?_
    refine x_if_ne (tgt := 57) dX6_legend_50 (by decide) (fun z9 => absurd (by decide) z9) (fun _ => ?_)
    refine x_iconst (v := 0) dX6_legend_53 (by decide) ?_
    refine x_goto (tgt := 63) dX6_legend_54 (by decide) ?_
    refine x_ls (st' := [.int (nI 0)]) rfl rfl ?_
    refine x_istore dX6_legend_63 (by decide) rfl ?_
    refine x_iload dX6_legend_65 rfl ?_
    refine x_iconst (v := 2) dX6_legend_67 (by decide) ?_
    refine x_icmp_ge (tgt := 75) dX6_legend_68 (by decide) (fun _ => ?_) (fun z9 => absurd (by decide) z9)
    refine x_aload_n dX6_legend_75 rfl ?_
    refine x_get 1 dX6_legend_76 hM.1 rfl (by decide) (by decide +kernel) rfl ?_
    refine x_iload_n dX6_legend_79 rfl ?_
    refine x_isub dX6_legend_80 ?_
    refine x_ls (st' := [.int (nI (rn - g))]) rfl (by rw [hrn, pk_sub hgr]) ?_
    refine x_istore dX6_legend_81 (by decide) rfl ?_
    refine x_iconst (v := 0) dX6_legend_83 (by decide) ?_
    refine x_istore dX6_legend_84 (by decide) rfl ?_
    refine x_iload dX6_legend_86 rfl ?_
    refine x_istore dX6_legend_88 (by decide) rfl ?_
    refine xV.sub (L' := [.ref (A 0), .int (nI w), .int (nI g), .int bs, .int ls, .int (nI 2), .int (nI 0), .int (nI (rn - g)), .int 0, .int (nI (rn - g)), xU]) ⟨Or.inr rfl, Or.inr rfl, Or.inr rfl, Or.inr rfl, Or.inr rfl, Or.inr rfl, Or.inr rfl, Or.inr rfl, Or.inr rfl, Or.inr rfl, Or.inl rfl, trivial⟩ (outer 0 (rn - g) bs ls _ (by omega) (by omega) g (rn - g) 0 rfl ?_)
    refine x_iload dX6_legend_147 rfl ?_
    refine x_iload dX6_legend_149 rfl ?_
    have J160 : xV G l mX6_legend (d + 8) 0 0 0 0 160 [.ref (A 0), .int (nI w), .int (nI g), .int bs, .int ls, .int (nI 2), .int (nI 0), .int (nI (rn - g)), .int (LX6_cvO I V 0 w g (rn - g) 0), xU, xU] [.int (if ls ≤ (LX6_cvO I V 0 w g (rn - g) 0) then bs else (nI 2))] h Q := by
      refine x_istore_n dX6_legend_160 (by decide) rfl ?_
      refine x_iload dX6_legend_161 rfl ?_
      refine x_iload dX6_legend_163 rfl ?_
      have J175 : xV G l mX6_legend (d + 8) 0 0 0 0 175 [.ref (A 0), .int (nI w), .int (nI g), .int (if ls ≤ (LX6_cvO I V 0 w g (rn - g) 0) then bs else (nI 2)), .int ls, .int (nI 2), .int (nI 0), .int (nI (rn - g)), .int (LX6_cvO I V 0 w g (rn - g) 0), xU, xU] [.int (if ls ≤ (LX6_cvO I V 0 w g (rn - g) 0) then ls else (LX6_cvO I V 0 w g (rn - g) 0))] h Q := by
        refine x_istore dX6_legend_175 (by decide) rfl ?_
        refine x_iinc (v := 1) dX6_legend_177 rfl (by decide) (by decide) rfl ?_
        refine x_goto (tgt := 40) dX6_legend_180 (by decide) ?_
        refine xV.sub (L' := [.ref (A 0), .int (nI w), .int (nI g), .int (if ls ≤ (LX6_cvO I V 0 w g (rn - g) 0) then bs else (nI 2)), .int (if ls ≤ (LX6_cvO I V 0 w g (rn - g) 0) then ls else (LX6_cvO I V 0 w g (rn - g) 0)), .int (nI 3), xU, xU, xU, xU, xU]) ⟨Or.inr rfl, Or.inr rfl, Or.inr rfl, Or.inr rfl, Or.inr rfl, Or.inr (congrArg Value.int (nI_1 2)), Or.inl rfl, Or.inl rfl, Or.inl rfl, Or.inl rfl, Or.inl rfl, trivial⟩ hk
      refine x_icmp_ge (tgt := 173) dX6_legend_165 (by decide) (fun hc_165 => ?_) (fun hc_165 => ?_)
      · refine x_iload dX6_legend_173 rfl ?_
        exact x_ls rfl (by first | rfl | (rw [if_pos hc_165] <;> rfl) | (simp only [if_pos hc_165]; rfl) | (simp only [if_pos hc_165])) J175
      · refine x_iload dX6_legend_168 rfl ?_
        refine x_goto (tgt := 175) dX6_legend_170 (by decide) ?_
        exact x_ls rfl (by first | rfl | (rw [if_neg hc_165] <;> rfl) | (simp only [if_neg hc_165]; rfl) | (simp only [if_neg hc_165])) J175
    refine x_icmp_ge (tgt := 159) dX6_legend_151 (by decide) (fun hc_151 => ?_) (fun hc_151 => ?_)
    · refine x_iload_n dX6_legend_159 rfl ?_
      exact x_ls rfl (by first | rfl | (rw [if_pos hc_151] <;> rfl) | (simp only [if_pos hc_151]; rfl) | (simp only [if_pos hc_151])) J160
    · refine x_iload dX6_legend_154 rfl ?_
      refine x_goto (tgt := 160) dX6_legend_156 (by decide) ?_
      exact x_ls rfl (by first | rfl | (rw [if_neg hc_151] <;> rfl) | (simp only [if_neg hc_151]; rfl) | (simp only [if_neg hc_151])) J160
  have s3 : ∀ (bs ls : Int32), xV G l mX6_legend (d + 8) 0 0 0 0 40 [.ref (A 0), .int (nI w), .int (nI g), .int (if ls ≤ (LX6_cvO I V (cn - w) w g (rn - g) 0) then bs else nI 3), .int (if ls ≤ (LX6_cvO I V (cn - w) w g (rn - g) 0) then ls else (LX6_cvO I V (cn - w) w g (rn - g) 0)), .int (nI 4), xU, xU, xU, xU, xU] [] h Q → xV G l mX6_legend (d + 8) 0 0 0 0 40 [.ref (A 0), .int (nI w), .int (nI g), .int bs, .int ls, .int (nI 3), xU, xU, xU, xU, xU] [] h Q := by
    clear hQ
    intro bs ls hk
    refine x_iload dX6_legend_40 rfl ?_
    refine x_iconst (v := 4) dX6_legend_42 (by decide) ?_
    refine x_icmp_ge (tgt := 183) dX6_legend_43 (by decide) (fun z9 => absurd z9 (by decide)) (fun _ => ?_)
    refine x_iload dX6_legend_46 rfl ?_
    refine x_iconst (v := 2) dX6_legend_48 (by decide) ?_
    refine x_irem dX6_legend_49 (by decide) ?_
    refine x_if_ne (tgt := 57) dX6_legend_50 (by decide) (fun _ => ?_) (fun z9 => absurd z9 (by decide))
    refine x_aload_n dX6_legend_57 rfl ?_
    refine x_get 0 dX6_legend_58 hM.1 rfl (by decide) (by decide +kernel) rfl ?_
    refine x_iload_n dX6_legend_61 rfl ?_
    refine x_isub dX6_legend_62 ?_
    refine x_ls (st' := [.int (nI (cn - w))]) rfl (by rw [hcn, pk_sub hwc]) ?_
    refine x_istore dX6_legend_63 (by decide) rfl ?_
    refine x_iload dX6_legend_65 rfl ?_
    refine x_iconst (v := 2) dX6_legend_67 (by decide) ?_
    refine x_icmp_ge (tgt := 75) dX6_legend_68 (by decide) (fun _ => ?_) (fun z9 => absurd (by decide) z9)
    refine x_aload_n dX6_legend_75 rfl ?_
    refine x_get 1 dX6_legend_76 hM.1 rfl (by decide) (by decide +kernel) rfl ?_
    refine x_iload_n dX6_legend_79 rfl ?_
    refine x_isub dX6_legend_80 ?_
    refine x_ls (st' := [.int (nI (rn - g))]) rfl (by rw [hrn, pk_sub hgr]) ?_
    refine x_istore dX6_legend_81 (by decide) rfl ?_
    refine x_iconst (v := 0) dX6_legend_83 (by decide) ?_
    refine x_istore dX6_legend_84 (by decide) rfl ?_
    refine x_iload dX6_legend_86 rfl ?_
    refine x_istore dX6_legend_88 (by decide) rfl ?_
    refine xV.sub (L' := [.ref (A 0), .int (nI w), .int (nI g), .int bs, .int ls, .int (nI 3), .int (nI (cn - w)), .int (nI (rn - g)), .int 0, .int (nI (rn - g)), xU]) ⟨Or.inr rfl, Or.inr rfl, Or.inr rfl, Or.inr rfl, Or.inr rfl, Or.inr rfl, Or.inr rfl, Or.inr rfl, Or.inr rfl, Or.inr rfl, Or.inl rfl, trivial⟩ (outer (cn - w) (rn - g) bs ls _ (by omega) (by omega) g (rn - g) 0 rfl ?_)
    refine x_iload dX6_legend_147 rfl ?_
    refine x_iload dX6_legend_149 rfl ?_
    have J160 : xV G l mX6_legend (d + 8) 0 0 0 0 160 [.ref (A 0), .int (nI w), .int (nI g), .int bs, .int ls, .int (nI 3), .int (nI (cn - w)), .int (nI (rn - g)), .int (LX6_cvO I V (cn - w) w g (rn - g) 0), xU, xU] [.int (if ls ≤ (LX6_cvO I V (cn - w) w g (rn - g) 0) then bs else (nI 3))] h Q := by
      refine x_istore_n dX6_legend_160 (by decide) rfl ?_
      refine x_iload dX6_legend_161 rfl ?_
      refine x_iload dX6_legend_163 rfl ?_
      have J175 : xV G l mX6_legend (d + 8) 0 0 0 0 175 [.ref (A 0), .int (nI w), .int (nI g), .int (if ls ≤ (LX6_cvO I V (cn - w) w g (rn - g) 0) then bs else (nI 3)), .int ls, .int (nI 3), .int (nI (cn - w)), .int (nI (rn - g)), .int (LX6_cvO I V (cn - w) w g (rn - g) 0), xU, xU] [.int (if ls ≤ (LX6_cvO I V (cn - w) w g (rn - g) 0) then ls else (LX6_cvO I V (cn - w) w g (rn - g) 0))] h Q := by
        refine x_istore dX6_legend_175 (by decide) rfl ?_
        refine x_iinc (v := 1) dX6_legend_177 rfl (by decide) (by decide) rfl ?_
        refine x_goto (tgt := 40) dX6_legend_180 (by decide) ?_
        refine xV.sub (L' := [.ref (A 0), .int (nI w), .int (nI g), .int (if ls ≤ (LX6_cvO I V (cn - w) w g (rn - g) 0) then bs else (nI 3)), .int (if ls ≤ (LX6_cvO I V (cn - w) w g (rn - g) 0) then ls else (LX6_cvO I V (cn - w) w g (rn - g) 0)), .int (nI 4), xU, xU, xU, xU, xU]) ⟨Or.inr rfl, Or.inr rfl, Or.inr rfl, Or.inr rfl, Or.inr rfl, Or.inr (congrArg Value.int (nI_1 3)), Or.inl rfl, Or.inl rfl, Or.inl rfl, Or.inl rfl, Or.inl rfl, trivial⟩ hk
      refine x_icmp_ge (tgt := 173) dX6_legend_165 (by decide) (fun hc_165 => ?_) (fun hc_165 => ?_)
      · refine x_iload dX6_legend_173 rfl ?_
        exact x_ls rfl (by first | rfl | (rw [if_pos hc_165] <;> rfl) | (simp only [if_pos hc_165]; rfl) | (simp only [if_pos hc_165])) J175
      · refine x_iload dX6_legend_168 rfl ?_
        refine x_goto (tgt := 175) dX6_legend_170 (by decide) ?_
        exact x_ls rfl (by first | rfl | (rw [if_neg hc_165] <;> rfl) | (simp only [if_neg hc_165]; rfl) | (simp only [if_neg hc_165])) J175
    refine x_icmp_ge (tgt := 159) dX6_legend_151 (by decide) (fun hc_151 => ?_) (fun hc_151 => ?_)
    · refine x_iload_n dX6_legend_159 rfl ?_
      exact x_ls rfl (by first | rfl | (rw [if_pos hc_151] <;> rfl) | (simp only [if_pos hc_151]; rfl) | (simp only [if_pos hc_151])) J160
    · refine x_iload dX6_legend_154 rfl ?_
      refine x_goto (tgt := 160) dX6_legend_156 (by decide) ?_
      exact x_ls rfl (by first | rfl | (rw [if_neg hc_151] <;> rfl) | (simp only [if_neg hc_151]; rfl) | (simp only [if_neg hc_151])) J160
  have s4 : ∀ (bs ls : Int32), Q (some (.int bs)) h → xV G l mX6_legend (d + 8) 0 0 0 0 40 [.ref (A 0), .int (nI w), .int (nI g), .int bs, .int ls, .int (nI 4), xU, xU, xU, xU, xU] [] h Q := by
    clear hQ
    intro bs ls hQ
    refine x_iload dX6_legend_40 rfl ?_
    refine x_iconst (v := 4) dX6_legend_42 (by decide) ?_
    refine x_icmp_ge (tgt := 183) dX6_legend_43 (by decide) (fun _ => ?_) (fun z9 => absurd (by decide) z9)
    refine x_iload_n dX6_legend_183 rfl ?_
    exact x_iret dX6_legend_184 rfl hQ
  exact s0 0 641 (s1 _ _ (s2 _ _ (s3 _ _ (s4 _ _ hQ))))
set_option maxHeartbeats 4000000 in
set_option maxRecDepth 100000 in
theorem kX6_legendB {G : xG} {l : Launch} {d : Nat} {h : xH} {Q : Option Value → xH → Prop} {A : Nat → Nat} {I : xMi} {V : Nat → Nat → Int32} {x y : Int32} (hM : xMod G A I V h) (hb : FX6_in x 1 I.1 = 0 ∨ FX6_in y 1 I.2.1 = 0) (hQ : Q (some (.int (-1))) h) : xV G l mX6_legend (d + 8) 0 0 0 0 0 [.ref (A 0), .int x, .int y, xU, xU, xU, xU, xU, xU, xU, xU] [] h Q := by
  refine x_iload_n dX6_legend_0 rfl ?_
  refine x_iconst (v := 1) dX6_legend_1 (by decide) ?_
  refine x_aload_n dX6_legend_2 rfl ?_
  refine x_get 0 dX6_legend_3 hM.1 rfl (by decide) (by decide +kernel) rfl ?_
  refine x_callS (M' := mX6_in) (mc' := 0) (ms' := 0) (As := [.int x, .int (1 : Int32), .int I.1]) dX6_legend_6 gX6_legend_X6_in okX6_in rfl rfl (Nat.le_of_ble_eq_true rfl) (Nat.le_of_ble_eq_true rfl) (Nat.le_refl _) (Nat.le_refl _) (Nat.le_refl _) ?_
  refine kX6_in  ?_
  show xV _ _ _ _ _ _ _ _ _ _ _ _ _
  refine x_if_eq (tgt := 24) dX6_legend_9 (by decide) (fun hc_9 => ?_) (fun hc_9 => ?_)
  · refine x_iconst (v := (-1)) dX6_legend_24 (by decide) ?_
    exact x_iret dX6_legend_25 rfl hQ
  · refine x_iload_n dX6_legend_12 rfl ?_
    refine x_iconst (v := 1) dX6_legend_13 (by decide) ?_
    refine x_aload_n dX6_legend_14 rfl ?_
    refine x_get 1 dX6_legend_15 hM.1 rfl (by decide) (by decide +kernel) rfl ?_
    refine x_callS (M' := mX6_in) (mc' := 0) (ms' := 0) (As := [.int y, .int (1 : Int32), .int I.2.1]) dX6_legend_18 gX6_legend_X6_in okX6_in rfl rfl (Nat.le_of_ble_eq_true rfl) (Nat.le_of_ble_eq_true rfl) (Nat.le_refl _) (Nat.le_refl _) (Nat.le_refl _) ?_
    refine kX6_in  ?_
    show xV _ _ _ _ _ _ _ _ _ _ _ _ _
    refine x_if_ne (tgt := 26) dX6_legend_21 (by decide) (fun hc_21 => ?_) (fun hc_21 => ?_)
    · exact absurd hb (not_or.mpr ⟨hc_9, hc_21⟩)
    · refine x_iconst (v := (-1)) dX6_legend_24 (by decide) ?_
      exact x_iret dX6_legend_25 rfl hQ
set_option maxHeartbeats 4000000 in
set_option maxRecDepth 100000 in
theorem kX6_legend {G : xG} {l : Launch} {d : Nat} {h : xH} {Q : Option Value → xH → Prop} {A : Nat → Nat} {I : xMi} {V : Nat → Nat → Int32} {w g cn rn : Nat} (hM : xMod G A I V h) (hA : ∀ {i j : Nat}, i ≠ j → A i ≠ A j) (hR : mRdy I V) (hcn : I.1 = nI cn) (hrn : I.2.1 = nI rn) (hc40 : cn ≤ 40) (hr16 : rn ≤ 16) (hw1 : ¬ FX6_in (nI w) 1 I.1 = 0) (hg1 : ¬ FX6_in (nI g) 1 I.2.1 = 0) (hwc : w ≤ cn) (hgr : g ≤ rn) (hQ : ∀ h', xMod G A (mdI I) (drV I V) h' → xfM A h h' → Q (some (.int (FX6_legend (mdI I) (drV I V) cn rn w g))) h') : xV G l mX6_legend (d + 8) 0 0 0 0 0 [.ref (A 0), .int (nI w), .int (nI g), xU, xU, xU, xU, xU, xU, xU, xU] [] h Q := by
  refine x_iload_n dX6_legend_0 rfl ?_
  refine x_iconst (v := 1) dX6_legend_1 (by decide) ?_
  refine x_aload_n dX6_legend_2 rfl ?_
  refine x_get 0 dX6_legend_3 hM.1 rfl (by decide) (by decide +kernel) rfl ?_
  refine x_callS (M' := mX6_in) (mc' := 0) (ms' := 0) (As := [.int (nI w), .int (1 : Int32), .int I.1]) dX6_legend_6 gX6_legend_X6_in okX6_in rfl rfl (Nat.le_of_ble_eq_true rfl) (Nat.le_of_ble_eq_true rfl) (Nat.le_refl _) (Nat.le_refl _) (Nat.le_refl _) ?_
  refine kX6_in  ?_
  show xV _ _ _ _ _ _ _ _ _ _ _ _ _
  refine x_if_eq (tgt := 24) dX6_legend_9 (by decide) (fun z9 => absurd z9 hw1) (fun _ => ?_)
  refine x_iload_n dX6_legend_12 rfl ?_
  refine x_iconst (v := 1) dX6_legend_13 (by decide) ?_
  refine x_aload_n dX6_legend_14 rfl ?_
  refine x_get 1 dX6_legend_15 hM.1 rfl (by decide) (by decide +kernel) rfl ?_
  refine x_callS (M' := mX6_in) (mc' := 0) (ms' := 0) (As := [.int (nI g), .int (1 : Int32), .int I.2.1]) dX6_legend_18 gX6_legend_X6_in okX6_in rfl rfl (Nat.le_of_ble_eq_true rfl) (Nat.le_of_ble_eq_true rfl) (Nat.le_refl _) (Nat.le_refl _) (Nat.le_refl _) ?_
  refine kX6_in  ?_
  show xV _ _ _ _ _ _ _ _ _ _ _ _ _
  refine x_if_ne (tgt := 26) dX6_legend_21 (by decide) (fun _ => ?_) (fun z9 => absurd z9 hg1)
  refine x_aload_n dX6_legend_26 rfl ?_
  refine x_callV (M' := mX6_draws) (mc' := 0) (ms' := 0) (As := []) dX6_legend_27 gX6_legend_X6_draws okX6_draws rfl rfl hM.1 rfl (Nat.le_of_ble_eq_true rfl) (Nat.le_of_ble_eq_true rfl) (Nat.le_refl _) (Nat.le_refl _) (Nat.le_refl _) ?_
  refine kX6_drawsR hM hA hR (fun h9 hM9 hF9 => ?_)
  have hM0 := hM
  clear hM
  have hM := hM9
  show xV _ _ _ _ _ _ _ _ _ _ _ _ _
  refine x_iconst (v := 0) dX6_legend_30 (by decide) ?_
  refine x_istore_n dX6_legend_31 (by decide) rfl ?_
  refine x_sipush (v := 641) dX6_legend_32 (by decide) ?_
  refine x_istore dX6_legend_35 (by decide) rfl ?_
  refine x_iconst (v := 0) dX6_legend_37 (by decide) ?_
  refine x_istore dX6_legend_38 (by decide) rfl ?_
  refine xV.sub (L' := [.ref (A 0), .int (nI w), .int (nI g), .int 0, .int 641, .int (nI 0), xU, xU, xU, xU, xU]) ⟨Or.inr rfl, Or.inr rfl, Or.inr rfl, Or.inr rfl, Or.inr rfl, Or.inr (congrArg Value.int nI_0.symm), Or.inl rfl, Or.inl rfl, Or.inl rfl, Or.inl rfl, Or.inl rfl, trivial⟩ (kX6_legendT hM hR.1.2 hR.2.2.2.2.2.1.1 hcn hrn hc40 hr16 hwc hgr (hQ h9 hM9 hF9))
set_option maxHeartbeats 4000000 in
set_option maxRecDepth 100000 in
theorem kX5_legendT {G : xG} {l : Launch} {d : Nat} {h : xH} {Q : Option Value → xH → Prop} {sc pg sx sy al ed : Nat} {C : Nat → Nat} {B : Nat → Nat → Nat} {p : xPv} {n : Int32} {U : Nat → Nat → Int32} {md : Int32} {N : Nat} {I : Nat → xSi} {V : Nat → Nat → Nat → Int32} {cw rh w g : Nat} (hK : xCls G sc pg sx sy al ed C B p n U md N I V h) (hn20 : n ≤ 20) (hp1 : p.1 = nI cw) (hp2 : p.2.1 = nI rh) (hp3 : cw < 100) (hp4 : rh < 100) (hwc : w ≤ cw) (hgr : g ≤ rh) (hQ : Q (some (.int (FX5_legend p n U N I V cw rh w g))) h) : xV G l mX5_legend (d + 6) 0 0 0 0 46 [.ref sc, .int (nI w), .int (nI g), .int 0, .int 641, .int (nI 0), xU, xU, xU] [] h Q := by
  have s0 : ∀ (bs ls : Int32), xV G l mX5_legend (d + 6) 0 0 0 0 46 [.ref sc, .int (nI w), .int (nI g), .int (if ls ≤ (FX5_coveredWithin p n U N I V 0 0 w g) then bs else nI 0), .int (if ls ≤ (FX5_coveredWithin p n U N I V 0 0 w g) then ls else (FX5_coveredWithin p n U N I V 0 0 w g)), .int (nI 1), xU, xU, xU] [] h Q → xV G l mX5_legend (d + 6) 0 0 0 0 46 [.ref sc, .int (nI w), .int (nI g), .int bs, .int ls, .int (nI 0), xU, xU, xU] [] h Q := by
    clear hQ
    intro bs ls hk
    refine x_iload dX5_legend_46 rfl ?_
    refine x_iconst (v := 4) dX5_legend_48 (by decide) ?_
    refine x_icmp_ge (tgt := 127) dX5_legend_49 (by decide) (fun z9 => absurd z9 (by decide)) (fun _ => ?_)
    refine x_iload dX5_legend_52 rfl ?_
    refine x_iconst (v := 2) dX5_legend_54 (by decide) ?_
    refine x_irem dX5_legend_55 (by decide) ?_
    refine x_if_ne (tgt := 63) dX5_legend_56 (by decide) (fun z9 => absurd (by decide) z9) (fun _ => ?_)
    refine x_iconst (v := 0) dX5_legend_59 (by decide) ?_
    refine x_goto (tgt := 72) dX5_legend_60 (by decide) ?_
    refine x_ls (st' := [.int (nI 0)]) rfl rfl ?_
    refine x_istore dX5_legend_72 (by decide) rfl ?_
    refine x_iload dX5_legend_74 rfl ?_
    refine x_iconst (v := 2) dX5_legend_76 (by decide) ?_
    refine x_icmp_ge (tgt := 84) dX5_legend_77 (by decide) (fun z9 => absurd z9 (by decide)) (fun _ => ?_)
    refine x_iconst (v := 0) dX5_legend_80 (by decide) ?_
    refine x_goto (tgt := 93) dX5_legend_81 (by decide) ?_
    refine x_ls (st' := [.int (nI 0)]) rfl rfl ?_
    refine x_istore dX5_legend_93 (by decide) rfl ?_
    refine x_aload_n dX5_legend_95 rfl ?_
    refine x_iload dX5_legend_96 rfl ?_
    refine x_iload dX5_legend_98 rfl ?_
    refine x_iload_n dX5_legend_100 rfl ?_
    refine x_iload_n dX5_legend_101 rfl ?_
    refine x_callV (M' := mX5_coveredWithin) (mc' := 0) (ms' := 0) (As := [.int (nI 0), .int (nI 0), .int (nI w), .int (nI g)]) dX5_legend_102 gX5_legend_X5_coveredWithin okX5_coveredWithin rfl rfl hK.1 rfl (Nat.le_of_ble_eq_true rfl) (Nat.le_of_ble_eq_true rfl) (Nat.le_refl _) (Nat.le_refl _) (Nat.le_refl _) ?_
    refine kX5_coveredWithin hK hn20 (by omega) (by omega) ?_
    show xV _ _ _ _ _ _ _ _ _ _ _ _ _
    refine x_istore dX5_legend_105 (by decide) rfl ?_
    refine x_iload dX5_legend_107 rfl ?_
    refine x_iload dX5_legend_109 rfl ?_
    have J121 : xV G l mX5_legend (d + 6) 0 0 0 0 121 [.ref sc, .int (nI w), .int (nI g), .int (if ls ≤ (FX5_coveredWithin p n U N I V 0 0 w g) then bs else (nI 0)), .int (if ls ≤ (FX5_coveredWithin p n U N I V 0 0 w g) then ls else (FX5_coveredWithin p n U N I V 0 0 w g)), .int (nI 0), .int (nI 0), .int (nI 0), .int (FX5_coveredWithin p n U N I V 0 0 w g)] [] h Q := by
      refine x_iinc (v := 1) dX5_legend_121 rfl (by decide) (by decide) rfl ?_
      refine x_goto (tgt := 46) dX5_legend_124 (by decide) ?_
      refine xV.sub (L' := [.ref sc, .int (nI w), .int (nI g), .int (if ls ≤ (FX5_coveredWithin p n U N I V 0 0 w g) then bs else (nI 0)), .int (if ls ≤ (FX5_coveredWithin p n U N I V 0 0 w g) then ls else (FX5_coveredWithin p n U N I V 0 0 w g)), .int (nI 1), xU, xU, xU]) ⟨Or.inr rfl, Or.inr rfl, Or.inr rfl, Or.inr rfl, Or.inr rfl, Or.inr (congrArg Value.int (nI_1 0)), Or.inl rfl, Or.inl rfl, Or.inl rfl, trivial⟩ hk
    refine x_icmp_ge (tgt := 121) dX5_legend_111 (by decide) (fun hc_111 => ?_) (fun hc_111 => ?_)
    · exact x_ls (by first | rfl | (rw [if_pos hc_111] <;> rfl) | (simp only [if_pos hc_111]; rfl) | (simp only [if_pos hc_111])) rfl J121
    · refine x_iload dX5_legend_114 rfl ?_
      refine x_istore dX5_legend_116 (by decide) rfl ?_
      refine x_iload dX5_legend_118 rfl ?_
      refine x_istore_n dX5_legend_120 (by decide) rfl ?_
      exact x_ls (by first | rfl | (rw [if_neg hc_111] <;> rfl) | (simp only [if_neg hc_111]; rfl) | (simp only [if_neg hc_111])) rfl J121
  have s1 : ∀ (bs ls : Int32), xV G l mX5_legend (d + 6) 0 0 0 0 46 [.ref sc, .int (nI w), .int (nI g), .int (if ls ≤ (FX5_coveredWithin p n U N I V (cw - w) 0 w g) then bs else nI 1), .int (if ls ≤ (FX5_coveredWithin p n U N I V (cw - w) 0 w g) then ls else (FX5_coveredWithin p n U N I V (cw - w) 0 w g)), .int (nI 2), xU, xU, xU] [] h Q → xV G l mX5_legend (d + 6) 0 0 0 0 46 [.ref sc, .int (nI w), .int (nI g), .int bs, .int ls, .int (nI 1), xU, xU, xU] [] h Q := by
    clear hQ
    intro bs ls hk
    refine x_iload dX5_legend_46 rfl ?_
    refine x_iconst (v := 4) dX5_legend_48 (by decide) ?_
    refine x_icmp_ge (tgt := 127) dX5_legend_49 (by decide) (fun z9 => absurd z9 (by decide)) (fun _ => ?_)
    refine x_iload dX5_legend_52 rfl ?_
    refine x_iconst (v := 2) dX5_legend_54 (by decide) ?_
    refine x_irem dX5_legend_55 (by decide) ?_
    refine x_if_ne (tgt := 63) dX5_legend_56 (by decide) (fun _ => ?_) (fun z9 => absurd z9 (by decide))
    refine x_aload_n dX5_legend_63 rfl ?_
    refine x_get 0 dX5_legend_64 hK.1 rfl (by decide) (by decide +kernel) rfl ?_
    refine x_get 0 dX5_legend_67 hK.2.1.1 rfl (by decide) (by decide +kernel) rfl ?_
    refine x_iload_n dX5_legend_70 rfl ?_
    refine x_isub dX5_legend_71 ?_
    refine x_ls (st' := [.int (nI (cw - w))]) rfl (by rw [hp1, pk_sub hwc]) ?_
    refine x_istore dX5_legend_72 (by decide) rfl ?_
    refine x_iload dX5_legend_74 rfl ?_
    refine x_iconst (v := 2) dX5_legend_76 (by decide) ?_
    refine x_icmp_ge (tgt := 84) dX5_legend_77 (by decide) (fun z9 => absurd z9 (by decide)) (fun _ => ?_)
    refine x_iconst (v := 0) dX5_legend_80 (by decide) ?_
    refine x_goto (tgt := 93) dX5_legend_81 (by decide) ?_
    refine x_ls (st' := [.int (nI 0)]) rfl rfl ?_
    refine x_istore dX5_legend_93 (by decide) rfl ?_
    refine x_aload_n dX5_legend_95 rfl ?_
    refine x_iload dX5_legend_96 rfl ?_
    refine x_iload dX5_legend_98 rfl ?_
    refine x_iload_n dX5_legend_100 rfl ?_
    refine x_iload_n dX5_legend_101 rfl ?_
    refine x_callV (M' := mX5_coveredWithin) (mc' := 0) (ms' := 0) (As := [.int (nI (cw - w)), .int (nI 0), .int (nI w), .int (nI g)]) dX5_legend_102 gX5_legend_X5_coveredWithin okX5_coveredWithin rfl rfl hK.1 rfl (Nat.le_of_ble_eq_true rfl) (Nat.le_of_ble_eq_true rfl) (Nat.le_refl _) (Nat.le_refl _) (Nat.le_refl _) ?_
    refine kX5_coveredWithin hK hn20 (by omega) (by omega) ?_
    show xV _ _ _ _ _ _ _ _ _ _ _ _ _
    refine x_istore dX5_legend_105 (by decide) rfl ?_
    refine x_iload dX5_legend_107 rfl ?_
    refine x_iload dX5_legend_109 rfl ?_
    have J121 : xV G l mX5_legend (d + 6) 0 0 0 0 121 [.ref sc, .int (nI w), .int (nI g), .int (if ls ≤ (FX5_coveredWithin p n U N I V (cw - w) 0 w g) then bs else (nI 1)), .int (if ls ≤ (FX5_coveredWithin p n U N I V (cw - w) 0 w g) then ls else (FX5_coveredWithin p n U N I V (cw - w) 0 w g)), .int (nI 1), .int (nI (cw - w)), .int (nI 0), .int (FX5_coveredWithin p n U N I V (cw - w) 0 w g)] [] h Q := by
      refine x_iinc (v := 1) dX5_legend_121 rfl (by decide) (by decide) rfl ?_
      refine x_goto (tgt := 46) dX5_legend_124 (by decide) ?_
      refine xV.sub (L' := [.ref sc, .int (nI w), .int (nI g), .int (if ls ≤ (FX5_coveredWithin p n U N I V (cw - w) 0 w g) then bs else (nI 1)), .int (if ls ≤ (FX5_coveredWithin p n U N I V (cw - w) 0 w g) then ls else (FX5_coveredWithin p n U N I V (cw - w) 0 w g)), .int (nI 2), xU, xU, xU]) ⟨Or.inr rfl, Or.inr rfl, Or.inr rfl, Or.inr rfl, Or.inr rfl, Or.inr (congrArg Value.int (nI_1 1)), Or.inl rfl, Or.inl rfl, Or.inl rfl, trivial⟩ hk
    refine x_icmp_ge (tgt := 121) dX5_legend_111 (by decide) (fun hc_111 => ?_) (fun hc_111 => ?_)
    · exact x_ls (by first | rfl | (rw [if_pos hc_111] <;> rfl) | (simp only [if_pos hc_111]; rfl) | (simp only [if_pos hc_111])) rfl J121
    · refine x_iload dX5_legend_114 rfl ?_
      refine x_istore dX5_legend_116 (by decide) rfl ?_
      refine x_iload dX5_legend_118 rfl ?_
      refine x_istore_n dX5_legend_120 (by decide) rfl ?_
      exact x_ls (by first | rfl | (rw [if_neg hc_111] <;> rfl) | (simp only [if_neg hc_111]; rfl) | (simp only [if_neg hc_111])) rfl J121
  have s2 : ∀ (bs ls : Int32), xV G l mX5_legend (d + 6) 0 0 0 0 46 [.ref sc, .int (nI w), .int (nI g), .int (if ls ≤ (FX5_coveredWithin p n U N I V 0 (rh - g) w g) then bs else nI 2), .int (if ls ≤ (FX5_coveredWithin p n U N I V 0 (rh - g) w g) then ls else (FX5_coveredWithin p n U N I V 0 (rh - g) w g)), .int (nI 3), xU, xU, xU] [] h Q → xV G l mX5_legend (d + 6) 0 0 0 0 46 [.ref sc, .int (nI w), .int (nI g), .int bs, .int ls, .int (nI 2), xU, xU, xU] [] h Q := by
    clear hQ
    intro bs ls hk
    refine x_iload dX5_legend_46 rfl ?_
    refine x_iconst (v := 4) dX5_legend_48 (by decide) ?_
    refine x_icmp_ge (tgt := 127) dX5_legend_49 (by decide) (fun z9 => absurd z9 (by decide)) (fun _ => ?_)
    refine x_iload dX5_legend_52 rfl ?_
    refine x_iconst (v := 2) dX5_legend_54 (by decide) ?_
    refine x_irem dX5_legend_55 (by decide) ?_
    refine x_if_ne (tgt := 63) dX5_legend_56 (by decide) (fun z9 => absurd (by decide) z9) (fun _ => ?_)
    refine x_iconst (v := 0) dX5_legend_59 (by decide) ?_
    refine x_goto (tgt := 72) dX5_legend_60 (by decide) ?_
    refine x_ls (st' := [.int (nI 0)]) rfl rfl ?_
    refine x_istore dX5_legend_72 (by decide) rfl ?_
    refine x_iload dX5_legend_74 rfl ?_
    refine x_iconst (v := 2) dX5_legend_76 (by decide) ?_
    refine x_icmp_ge (tgt := 84) dX5_legend_77 (by decide) (fun _ => ?_) (fun z9 => absurd (by decide) z9)
    refine x_aload_n dX5_legend_84 rfl ?_
    refine x_get 0 dX5_legend_85 hK.1 rfl (by decide) (by decide +kernel) rfl ?_
    refine x_get 1 dX5_legend_88 hK.2.1.1 rfl (by decide) (by decide +kernel) rfl ?_
    refine x_iload_n dX5_legend_91 rfl ?_
    refine x_isub dX5_legend_92 ?_
    refine x_ls (st' := [.int (nI (rh - g))]) rfl (by rw [hp2, pk_sub hgr]) ?_
    refine x_istore dX5_legend_93 (by decide) rfl ?_
    refine x_aload_n dX5_legend_95 rfl ?_
    refine x_iload dX5_legend_96 rfl ?_
    refine x_iload dX5_legend_98 rfl ?_
    refine x_iload_n dX5_legend_100 rfl ?_
    refine x_iload_n dX5_legend_101 rfl ?_
    refine x_callV (M' := mX5_coveredWithin) (mc' := 0) (ms' := 0) (As := [.int (nI 0), .int (nI (rh - g)), .int (nI w), .int (nI g)]) dX5_legend_102 gX5_legend_X5_coveredWithin okX5_coveredWithin rfl rfl hK.1 rfl (Nat.le_of_ble_eq_true rfl) (Nat.le_of_ble_eq_true rfl) (Nat.le_refl _) (Nat.le_refl _) (Nat.le_refl _) ?_
    refine kX5_coveredWithin hK hn20 (by omega) (by omega) ?_
    show xV _ _ _ _ _ _ _ _ _ _ _ _ _
    refine x_istore dX5_legend_105 (by decide) rfl ?_
    refine x_iload dX5_legend_107 rfl ?_
    refine x_iload dX5_legend_109 rfl ?_
    have J121 : xV G l mX5_legend (d + 6) 0 0 0 0 121 [.ref sc, .int (nI w), .int (nI g), .int (if ls ≤ (FX5_coveredWithin p n U N I V 0 (rh - g) w g) then bs else (nI 2)), .int (if ls ≤ (FX5_coveredWithin p n U N I V 0 (rh - g) w g) then ls else (FX5_coveredWithin p n U N I V 0 (rh - g) w g)), .int (nI 2), .int (nI 0), .int (nI (rh - g)), .int (FX5_coveredWithin p n U N I V 0 (rh - g) w g)] [] h Q := by
      refine x_iinc (v := 1) dX5_legend_121 rfl (by decide) (by decide) rfl ?_
      refine x_goto (tgt := 46) dX5_legend_124 (by decide) ?_
      refine xV.sub (L' := [.ref sc, .int (nI w), .int (nI g), .int (if ls ≤ (FX5_coveredWithin p n U N I V 0 (rh - g) w g) then bs else (nI 2)), .int (if ls ≤ (FX5_coveredWithin p n U N I V 0 (rh - g) w g) then ls else (FX5_coveredWithin p n U N I V 0 (rh - g) w g)), .int (nI 3), xU, xU, xU]) ⟨Or.inr rfl, Or.inr rfl, Or.inr rfl, Or.inr rfl, Or.inr rfl, Or.inr (congrArg Value.int (nI_1 2)), Or.inl rfl, Or.inl rfl, Or.inl rfl, trivial⟩ hk
    refine x_icmp_ge (tgt := 121) dX5_legend_111 (by decide) (fun hc_111 => ?_) (fun hc_111 => ?_)
    · exact x_ls (by first | rfl | (rw [if_pos hc_111] <;> rfl) | (simp only [if_pos hc_111]; rfl) | (simp only [if_pos hc_111])) rfl J121
    · refine x_iload dX5_legend_114 rfl ?_
      refine x_istore dX5_legend_116 (by decide) rfl ?_
      refine x_iload dX5_legend_118 rfl ?_
      refine x_istore_n dX5_legend_120 (by decide) rfl ?_
      exact x_ls (by first | rfl | (rw [if_neg hc_111] <;> rfl) | (simp only [if_neg hc_111]; rfl) | (simp only [if_neg hc_111])) rfl J121
  have s3 : ∀ (bs ls : Int32), xV G l mX5_legend (d + 6) 0 0 0 0 46 [.ref sc, .int (nI w), .int (nI g), .int (if ls ≤ (FX5_coveredWithin p n U N I V (cw - w) (rh - g) w g) then bs else nI 3), .int (if ls ≤ (FX5_coveredWithin p n U N I V (cw - w) (rh - g) w g) then ls else (FX5_coveredWithin p n U N I V (cw - w) (rh - g) w g)), .int (nI 4), xU, xU, xU] [] h Q → xV G l mX5_legend (d + 6) 0 0 0 0 46 [.ref sc, .int (nI w), .int (nI g), .int bs, .int ls, .int (nI 3), xU, xU, xU] [] h Q := by
    clear hQ
    intro bs ls hk
    refine x_iload dX5_legend_46 rfl ?_
    refine x_iconst (v := 4) dX5_legend_48 (by decide) ?_
    refine x_icmp_ge (tgt := 127) dX5_legend_49 (by decide) (fun z9 => absurd z9 (by decide)) (fun _ => ?_)
    refine x_iload dX5_legend_52 rfl ?_
    refine x_iconst (v := 2) dX5_legend_54 (by decide) ?_
    refine x_irem dX5_legend_55 (by decide) ?_
    refine x_if_ne (tgt := 63) dX5_legend_56 (by decide) (fun _ => ?_) (fun z9 => absurd z9 (by decide))
    refine x_aload_n dX5_legend_63 rfl ?_
    refine x_get 0 dX5_legend_64 hK.1 rfl (by decide) (by decide +kernel) rfl ?_
    refine x_get 0 dX5_legend_67 hK.2.1.1 rfl (by decide) (by decide +kernel) rfl ?_
    refine x_iload_n dX5_legend_70 rfl ?_
    refine x_isub dX5_legend_71 ?_
    refine x_ls (st' := [.int (nI (cw - w))]) rfl (by rw [hp1, pk_sub hwc]) ?_
    refine x_istore dX5_legend_72 (by decide) rfl ?_
    refine x_iload dX5_legend_74 rfl ?_
    refine x_iconst (v := 2) dX5_legend_76 (by decide) ?_
    refine x_icmp_ge (tgt := 84) dX5_legend_77 (by decide) (fun _ => ?_) (fun z9 => absurd (by decide) z9)
    refine x_aload_n dX5_legend_84 rfl ?_
    refine x_get 0 dX5_legend_85 hK.1 rfl (by decide) (by decide +kernel) rfl ?_
    refine x_get 1 dX5_legend_88 hK.2.1.1 rfl (by decide) (by decide +kernel) rfl ?_
    refine x_iload_n dX5_legend_91 rfl ?_
    refine x_isub dX5_legend_92 ?_
    refine x_ls (st' := [.int (nI (rh - g))]) rfl (by rw [hp2, pk_sub hgr]) ?_
    refine x_istore dX5_legend_93 (by decide) rfl ?_
    refine x_aload_n dX5_legend_95 rfl ?_
    refine x_iload dX5_legend_96 rfl ?_
    refine x_iload dX5_legend_98 rfl ?_
    refine x_iload_n dX5_legend_100 rfl ?_
    refine x_iload_n dX5_legend_101 rfl ?_
    refine x_callV (M' := mX5_coveredWithin) (mc' := 0) (ms' := 0) (As := [.int (nI (cw - w)), .int (nI (rh - g)), .int (nI w), .int (nI g)]) dX5_legend_102 gX5_legend_X5_coveredWithin okX5_coveredWithin rfl rfl hK.1 rfl (Nat.le_of_ble_eq_true rfl) (Nat.le_of_ble_eq_true rfl) (Nat.le_refl _) (Nat.le_refl _) (Nat.le_refl _) ?_
    refine kX5_coveredWithin hK hn20 (by omega) (by omega) ?_
    show xV _ _ _ _ _ _ _ _ _ _ _ _ _
    refine x_istore dX5_legend_105 (by decide) rfl ?_
    refine x_iload dX5_legend_107 rfl ?_
    refine x_iload dX5_legend_109 rfl ?_
    have J121 : xV G l mX5_legend (d + 6) 0 0 0 0 121 [.ref sc, .int (nI w), .int (nI g), .int (if ls ≤ (FX5_coveredWithin p n U N I V (cw - w) (rh - g) w g) then bs else (nI 3)), .int (if ls ≤ (FX5_coveredWithin p n U N I V (cw - w) (rh - g) w g) then ls else (FX5_coveredWithin p n U N I V (cw - w) (rh - g) w g)), .int (nI 3), .int (nI (cw - w)), .int (nI (rh - g)), .int (FX5_coveredWithin p n U N I V (cw - w) (rh - g) w g)] [] h Q := by
      refine x_iinc (v := 1) dX5_legend_121 rfl (by decide) (by decide) rfl ?_
      refine x_goto (tgt := 46) dX5_legend_124 (by decide) ?_
      refine xV.sub (L' := [.ref sc, .int (nI w), .int (nI g), .int (if ls ≤ (FX5_coveredWithin p n U N I V (cw - w) (rh - g) w g) then bs else (nI 3)), .int (if ls ≤ (FX5_coveredWithin p n U N I V (cw - w) (rh - g) w g) then ls else (FX5_coveredWithin p n U N I V (cw - w) (rh - g) w g)), .int (nI 4), xU, xU, xU]) ⟨Or.inr rfl, Or.inr rfl, Or.inr rfl, Or.inr rfl, Or.inr rfl, Or.inr (congrArg Value.int (nI_1 3)), Or.inl rfl, Or.inl rfl, Or.inl rfl, trivial⟩ hk
    refine x_icmp_ge (tgt := 121) dX5_legend_111 (by decide) (fun hc_111 => ?_) (fun hc_111 => ?_)
    · exact x_ls (by first | rfl | (rw [if_pos hc_111] <;> rfl) | (simp only [if_pos hc_111]; rfl) | (simp only [if_pos hc_111])) rfl J121
    · refine x_iload dX5_legend_114 rfl ?_
      refine x_istore dX5_legend_116 (by decide) rfl ?_
      refine x_iload dX5_legend_118 rfl ?_
      refine x_istore_n dX5_legend_120 (by decide) rfl ?_
      exact x_ls (by first | rfl | (rw [if_neg hc_111] <;> rfl) | (simp only [if_neg hc_111]; rfl) | (simp only [if_neg hc_111])) rfl J121
  have s4 : ∀ (bs ls : Int32), Q (some (.int bs)) h → xV G l mX5_legend (d + 6) 0 0 0 0 46 [.ref sc, .int (nI w), .int (nI g), .int bs, .int ls, .int (nI 4), xU, xU, xU] [] h Q := by
    clear hQ
    intro bs ls hQ
    refine x_iload dX5_legend_46 rfl ?_
    refine x_iconst (v := 4) dX5_legend_48 (by decide) ?_
    refine x_icmp_ge (tgt := 127) dX5_legend_49 (by decide) (fun _ => ?_) (fun z9 => absurd (by decide) z9)
    refine x_iload_n dX5_legend_127 rfl ?_
    exact x_iret dX5_legend_128 rfl hQ
  exact s0 0 641 (s1 _ _ (s2 _ _ (s3 _ _ (s4 _ _ hQ))))
set_option maxHeartbeats 4000000 in
set_option maxRecDepth 100000 in
theorem kX5_legendB {G : xG} {l : Launch} {d : Nat} {h : xH} {Q : Option Value → xH → Prop} {sc pg sx sy al ed : Nat} {C : Nat → Nat} {B : Nat → Nat → Nat} {p : xPv} {n : Int32} {U : Nat → Nat → Int32} {md : Int32} {N : Nat} {I : Nat → xSi} {V : Nat → Nat → Nat → Int32} {x y : Int32} (hK : xCls G sc pg sx sy al ed C B p n U md N I V h) (hb : FX5_within x 1 p.1 = 0 ∨ FX5_within y 1 p.2.1 = 0) (hQ : Q (some (.int (-1))) h) : xV G l mX5_legend (d + 6) 0 0 0 0 0 [.ref sc, .int x, .int y, xU, xU, xU, xU, xU, xU] [] h Q := by
  refine x_iload_n dX5_legend_0 rfl ?_
  refine x_iconst (v := 1) dX5_legend_1 (by decide) ?_
  refine x_aload_n dX5_legend_2 rfl ?_
  refine x_get 0 dX5_legend_3 hK.1 rfl (by decide) (by decide +kernel) rfl ?_
  refine x_get 0 dX5_legend_6 hK.2.1.1 rfl (by decide) (by decide +kernel) rfl ?_
  refine x_callS (M' := mX5_within) (mc' := 0) (ms' := 0) (As := [.int x, .int (1 : Int32), .int p.1]) dX5_legend_9 gX5_legend_X5_within okX5_within rfl rfl (Nat.le_of_ble_eq_true rfl) (Nat.le_of_ble_eq_true rfl) (Nat.le_refl _) (Nat.le_refl _) (Nat.le_refl _) ?_
  refine kX5_within  ?_
  show xV _ _ _ _ _ _ _ _ _ _ _ _ _
  refine x_if_eq (tgt := 30) dX5_legend_12 (by decide) (fun hc_12 => ?_) (fun hc_12 => ?_)
  · refine x_iconst (v := (-1)) dX5_legend_30 (by decide) ?_
    exact x_iret dX5_legend_31 rfl hQ
  · refine x_iload_n dX5_legend_15 rfl ?_
    refine x_iconst (v := 1) dX5_legend_16 (by decide) ?_
    refine x_aload_n dX5_legend_17 rfl ?_
    refine x_get 0 dX5_legend_18 hK.1 rfl (by decide) (by decide +kernel) rfl ?_
    refine x_get 1 dX5_legend_21 hK.2.1.1 rfl (by decide) (by decide +kernel) rfl ?_
    refine x_callS (M' := mX5_within) (mc' := 0) (ms' := 0) (As := [.int y, .int (1 : Int32), .int p.2.1]) dX5_legend_24 gX5_legend_X5_within okX5_within rfl rfl (Nat.le_of_ble_eq_true rfl) (Nat.le_of_ble_eq_true rfl) (Nat.le_refl _) (Nat.le_refl _) (Nat.le_refl _) ?_
    refine kX5_within  ?_
    show xV _ _ _ _ _ _ _ _ _ _ _ _ _
    refine x_if_ne (tgt := 32) dX5_legend_27 (by decide) (fun hc_27 => ?_) (fun hc_27 => ?_)
    · exact absurd hb (not_or.mpr ⟨hc_12, hc_27⟩)
    · refine x_iconst (v := (-1)) dX5_legend_30 (by decide) ?_
      exact x_iret dX5_legend_31 rfl hQ
set_option maxHeartbeats 4000000 in
set_option maxRecDepth 100000 in
theorem kX5_legend {G : xG} {l : Launch} {d : Nat} {h : xH} {Q : Option Value → xH → Prop} {sc pg sx sy al ed : Nat} {C : Nat → Nat} {B : Nat → Nat → Nat} {p : xPv} {n : Int32} {U : Nat → Nat → Int32} {md : Int32} {N : Nat} {I : Nat → xSi} {V : Nat → Nat → Nat → Int32} {cw rh w g : Nat} (hK : xCls G sc pg sx sy al ed C B p n U md N I V h) (hD : xDs sc pg sx sy al ed C B) (hz : ∀ k, k < N → (I k).2.2.2.1 ≤ 24) (hok : ∀ k, k < N → ∀ j : Nat, j < ((I k).2.2.2.1).toNatClampNeg → ¬ FX3_isSeen p (I k) (V k) (nI j) = 0 → drOk p (I k) (V k) (nI j)) (hfr : ∀ k, k < N → (I k).2.2.2.2 = 0 → FX3_draw p (I k) (V k) = (V k 6, V k 7)) {I9 : Nat → xSi} {V9 : Nat → Nat → Nat → Int32} (eI : I9 = fun k => st0 (I k)) (eV : V9 = fun k => fV p (I k) (V k)) (hn20 : n ≤ 20) (hp1 : p.1 = nI cw) (hp2 : p.2.1 = nI rh) (hp3 : cw < 100) (hp4 : rh < 100) (hw1 : ¬ FX5_within (nI w) 1 p.1 = 0) (hg1 : ¬ FX5_within (nI g) 1 p.2.1 = 0) (hwc : w ≤ cw) (hgr : g ≤ rh) (hQ : ∀ h', xCls G sc pg sx sy al ed C B p n U md N I9 V9 h' → xfrC B h h' → Q (some (.int (FX5_legend p n U N I9 V9 cw rh w g))) h') : xV G l mX5_legend (d + 6) 0 0 0 0 0 [.ref sc, .int (nI w), .int (nI g), xU, xU, xU, xU, xU, xU] [] h Q := by
  refine x_iload_n dX5_legend_0 rfl ?_
  refine x_iconst (v := 1) dX5_legend_1 (by decide) ?_
  refine x_aload_n dX5_legend_2 rfl ?_
  refine x_get 0 dX5_legend_3 hK.1 rfl (by decide) (by decide +kernel) rfl ?_
  refine x_get 0 dX5_legend_6 hK.2.1.1 rfl (by decide) (by decide +kernel) rfl ?_
  refine x_callS (M' := mX5_within) (mc' := 0) (ms' := 0) (As := [.int (nI w), .int (1 : Int32), .int p.1]) dX5_legend_9 gX5_legend_X5_within okX5_within rfl rfl (Nat.le_of_ble_eq_true rfl) (Nat.le_of_ble_eq_true rfl) (Nat.le_refl _) (Nat.le_refl _) (Nat.le_refl _) ?_
  refine kX5_within  ?_
  show xV _ _ _ _ _ _ _ _ _ _ _ _ _
  refine x_if_eq (tgt := 30) dX5_legend_12 (by decide) (fun z9 => absurd z9 hw1) (fun _ => ?_)
  refine x_iload_n dX5_legend_15 rfl ?_
  refine x_iconst (v := 1) dX5_legend_16 (by decide) ?_
  refine x_aload_n dX5_legend_17 rfl ?_
  refine x_get 0 dX5_legend_18 hK.1 rfl (by decide) (by decide +kernel) rfl ?_
  refine x_get 1 dX5_legend_21 hK.2.1.1 rfl (by decide) (by decide +kernel) rfl ?_
  refine x_callS (M' := mX5_within) (mc' := 0) (ms' := 0) (As := [.int (nI g), .int (1 : Int32), .int p.2.1]) dX5_legend_24 gX5_legend_X5_within okX5_within rfl rfl (Nat.le_of_ble_eq_true rfl) (Nat.le_of_ble_eq_true rfl) (Nat.le_refl _) (Nat.le_refl _) (Nat.le_refl _) ?_
  refine kX5_within  ?_
  show xV _ _ _ _ _ _ _ _ _ _ _ _ _
  refine x_if_ne (tgt := 32) dX5_legend_27 (by decide) (fun _ => ?_) (fun z9 => absurd z9 hg1)
  refine x_aload_n dX5_legend_32 rfl ?_
  refine x_callV (M' := mX5_drawStale) (mc' := 0) (ms' := 0) (As := []) dX5_legend_33 gX5_legend_X5_drawStale okX5_drawStale rfl rfl hK.1 rfl (Nat.le_of_ble_eq_true rfl) (Nat.le_of_ble_eq_true rfl) (Nat.le_refl _) (Nat.le_refl _) (Nat.le_refl _) ?_
  refine kX5_drawStale hK hD hz hok hfr (fun h1 hK1 hF1 => ?_)
  rw [← eI, ← eV] at hK1
  clear hK
  have hK := hK1
  show xV _ _ _ _ _ _ _ _ _ _ _ _ _
  refine x_iconst (v := 0) dX5_legend_36 (by decide) ?_
  refine x_istore_n dX5_legend_37 (by decide) rfl ?_
  refine x_sipush (v := 641) dX5_legend_38 (by decide) ?_
  refine x_istore dX5_legend_41 (by decide) rfl ?_
  refine x_iconst (v := 0) dX5_legend_43 (by decide) ?_
  refine x_istore dX5_legend_44 (by decide) rfl ?_
  refine xV.sub (L' := [.ref sc, .int (nI w), .int (nI g), .int 0, .int 641, .int (nI 0), xU, xU, xU]) ⟨Or.inr rfl, Or.inr rfl, Or.inr rfl, Or.inr rfl, Or.inr rfl, Or.inr (congrArg Value.int nI_0.symm), Or.inl rfl, Or.inl rfl, Or.inl rfl, trivial⟩ (kX5_legendT hK hn20 hp1 hp2 hp3 hp4 hwc hgr (hQ _ hK1 hF1))
