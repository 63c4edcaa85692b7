/-- how many cells of w by g, from (a, b) on, show something -/
def LX6_cvI (I : xMi) (V : Nat → Nat → Int32) (r : Nat) : Nat → Nat → Int32 → Int32
  | 0, _, ac => ac
  | n9 + 1, j, ac => LX6_cvI I V r n9 (j + 1) (ac + (if FX6_signAt I V (nI j) (nI r) = 32 then 0 else 1))
def LX6_cvO (I : xMi) (V : Nat → Nat → Int32) (a w : Nat) : Nat → Nat → Int32 → Int32
  | 0, _, ac => ac
  | n9 + 1, r, ac => LX6_cvO I V a w n9 (r + 1) (LX6_cvI I V r w a ac)
def LX6_dgI (I : xMi) (V : Nat → Nat → Int32) (r : Nat) : Nat → Nat → Int64 → Int64
  | 0, _, ac => ac
  | n9 + 1, j, ac => LX6_dgI I V r n9 (j + 1) ((31 * ac) + Int32.toInt64 (FX6_signAt I V (nI j) (nI r)))
def LX6_dgO (I : xMi) (V : Nat → Nat → Int32) (w : Nat) : Nat → Nat → Int64 → Int64
  | 0, _, ac => ac
  | n9 + 1, r, ac => LX6_dgO I V w n9 (r + 1) (LX6_dgI I V r w 0 ac)
theorem mcr_inI {I : xMi} {cn rn j r : Nat} (hcn : I.1 = nI cn) (hc : cn ≤ 40) (hr : rn ≤ 16) (hj : j < cn) (hr2 : r < rn) : vp_in ((nI r * I.1) + nI j) 640 := by
  rw [hcn]; exact mcr_in hc hr hj hr2
set_option maxHeartbeats 4000000 in
set_option maxRecDepth 100000 in
theorem kX6_inkedT {G : xG} {l : Launch} {d : Nat} {h : xH} {Q : Option Value → xH → Prop} {A : Nat → Nat} {I : xMi} {V : Nat → Nat → Int32} (hM : xMod G A I V h) {cn rn : Nat} (h6 : I.2.2.1.toInt ≤ 6) (hl20 : I.2.2.2.1 ≤ 20) (hcn : I.1 = nI cn) (hrn : I.2.1 = nI rn) (hc40 : cn ≤ 40) (hr16 : rn ≤ 16) (hQ : Q (some (.int (LX6_cvO I V 0 cn rn 0 0))) h) : xV G l mX6_inked (d + 8) 0 0 0 0 8 [.ref (A 0), .int 0, .int (nI 0), xU] [] h Q := by
  have inner : ∀ (n9 j : Nat) (ac : Int32) (r : Nat), r < rn → j + n9 = cn → xV G l mX6_inked (d + 8) 0 0 0 0 51 [.ref (A 0), .int (LX6_cvI I V r n9 j ac), .int (nI r), .int (nI cn)] [] h Q → xV G l mX6_inked (d + 8) 0 0 0 0 18 [.ref (A 0), .int ac, .int (nI r), .int (nI j)] [] h Q := by
    clear hQ
    intro n9 j ac r hr
    revert j ac
    induction n9 with
    | zero =>
      intro j ac hj hk
      rw [LX6_cvI] at hk
      refine x_iload_n dX6_inked_18 rfl ?_
      refine x_aload_n dX6_inked_19 rfl ?_
      refine x_get 0 dX6_inked_20 hM.1 rfl (by decide) (by decide +kernel) rfl ?_
      refine x_icmp_ge (tgt := 51) dX6_inked_23 (by decide) (fun _ => ?_) (fun z9 => absurd (by rw [hcn]; exact nI_le (by omega) (by omega)) z9)
      have ej : j = cn := by omega
      subst ej
      exact hk
    | succ n9 ih =>
      intro j ac hj hk
      rw [LX6_cvI] at hk
      refine x_iload_n dX6_inked_18 rfl ?_
      refine x_aload_n dX6_inked_19 rfl ?_
      refine x_get 0 dX6_inked_20 hM.1 rfl (by decide) (by decide +kernel) rfl ?_
      refine x_icmp_ge (tgt := 51) dX6_inked_23 (by decide) (fun z9 => absurd z9 (by rw [hcn]; exact nI_ge (by omega) (by omega))) (fun _ => ?_)
      refine x_iload_n dX6_inked_26 rfl ?_
      refine x_aload_n dX6_inked_27 rfl ?_
      refine x_iload_n dX6_inked_28 rfl ?_
      refine x_iload_n dX6_inked_29 rfl ?_
      refine x_callV (M' := mX6_signAt) (mc' := 0) (ms' := 0) (As := [.int (nI j), .int (nI r)]) dX6_inked_30 gX6_inked_X6_signAt okX6_signAt rfl rfl hM.1 rfl (Nat.le_of_ble_eq_true rfl) (Nat.le_of_ble_eq_true rfl) (Nat.le_refl _) (Nat.le_refl _) (Nat.le_refl _) ?_
      refine kX6_signAt hM h6 hl20 (mcr_inI hcn hc40 hr16 (by omega) (by omega)) ?_
      show xV _ _ _ _ _ _ _ _ _ _ _ _ _
      refine x_bipush (v := 32) dX6_inked_33 (by decide) ?_
      have J43 : xV G l mX6_inked (d + 8) 0 0 0 0 43 [.ref (A 0), .int ac, .int (nI r), .int (nI j)] [.int (if (FX6_signAt I V (nI j) (nI r)) = (32 : Int32) then (0 : Int32) else (1 : Int32)), .int ac] h Q := by
        refine x_iadd dX6_inked_43 ?_
        refine x_istore_n dX6_inked_44 (by decide) rfl ?_
        refine x_iinc (v := 1) dX6_inked_45 rfl (by decide) (by decide) rfl ?_
        refine x_goto (tgt := 18) dX6_inked_48 (by decide) ?_
        refine xV.sub (L' := [.ref (A 0), .int (ac + (if (FX6_signAt I V (nI j) (nI r)) = (32 : Int32) then (0 : Int32) else (1 : Int32))), .int (nI r), .int (nI (j + 1))]) ⟨Or.inr rfl, Or.inr rfl, Or.inr rfl, Or.inr (congrArg Value.int (nI_1 j)), trivial⟩ (ih (j + 1) (ac + (if (FX6_signAt I V (nI j) (nI r)) = (32 : Int32) then (0 : Int32) else (1 : Int32))) (by omega) hk)
      refine x_icmp_eq (tgt := 42) dX6_inked_35 (by decide) (fun hc_35 => ?_) (fun hc_35 => ?_)
      · refine x_iconst (v := 0) dX6_inked_42 (by decide) ?_
        exact x_ls rfl (by first | rfl | (rw [if_pos hc_35] <;> rfl) | (simp only [if_pos hc_35]; rfl) | (simp only [if_pos hc_35])) J43
      · refine x_iconst (v := 1) dX6_inked_38 (by decide) ?_
        refine x_goto (tgt := 43) dX6_inked_39 (by decide) ?_
        exact x_ls rfl (by first | rfl | (rw [if_neg hc_35] <;> rfl) | (simp only [if_neg hc_35]; rfl) | (simp only [if_neg hc_35])) J43
  have outer : ∀ (n9 r : Nat) (ac : Int32), r + n9 = rn → Q (some (.int (LX6_cvO I V 0 cn n9 r ac))) h → xV G l mX6_inked (d + 8) 0 0 0 0 8 [.ref (A 0), .int ac, .int (nI r), xU] [] h Q := by
    clear hQ
    intro n9
    induction n9 with
    | zero =>
      intro r ac hr hQ
      rw [LX6_cvO] at hQ
      refine x_iload_n dX6_inked_8 rfl ?_
      refine x_aload_n dX6_inked_9 rfl ?_
      refine x_get 1 dX6_inked_10 hM.1 rfl (by decide) (by decide +kernel) rfl ?_
      refine x_icmp_ge (tgt := 57) dX6_inked_13 (by decide) (fun _ => ?_) (fun z9 => absurd (by rw [hrn]; exact nI_le (by omega) (by omega)) z9)
      refine x_iload_n dX6_inked_57 rfl ?_
      exact x_iret dX6_inked_58 rfl hQ
    | succ n9 ih =>
      intro r ac hr hQ
      rw [LX6_cvO] at hQ
      refine x_iload_n dX6_inked_8 rfl ?_
      refine x_aload_n dX6_inked_9 rfl ?_
      refine x_get 1 dX6_inked_10 hM.1 rfl (by decide) (by decide +kernel) rfl ?_
      refine x_icmp_ge (tgt := 57) dX6_inked_13 (by decide) (fun z9 => absurd z9 (by rw [hrn]; exact nI_ge (by omega) (by omega))) (fun _ => ?_)
      refine x_iconst (v := 0) dX6_inked_16 (by decide) ?_
      refine x_istore_n dX6_inked_17 (by decide) rfl ?_
      refine xV.sub (L' := [.ref (A 0), .int ac, .int (nI r), .int (nI 0)]) ⟨Or.inr rfl, Or.inr rfl, Or.inr rfl, Or.inr (congrArg Value.int nI_0.symm), trivial⟩ (inner cn 0 ac r (by omega) (by omega) ?_)
      refine x_iinc (v := 1) dX6_inked_51 rfl (by decide) (by decide) rfl ?_
      refine x_goto (tgt := 8) dX6_inked_54 (by decide) ?_
      refine xV.sub (L' := [.ref (A 0), .int (LX6_cvI I V r cn 0 ac), .int (nI (r + 1)), xU]) ⟨Or.inr rfl, Or.inr rfl, Or.inr (congrArg Value.int (nI_1 r)), Or.inl rfl, trivial⟩ (ih (r + 1) _ (by omega) hQ)
  exact outer rn 0 0 (by omega) hQ
set_option maxHeartbeats 4000000 in
set_option maxRecDepth 100000 in
theorem kX6_digestT {G : xG} {l : Launch} {d : Nat} {h : xH} {Q : Option Value → xH → Prop} {A : Nat → Nat} {I : xMi} {V : Nat → Nat → Int32} (hM : xMod G A I V h) {cn rn : Nat} (h6 : I.2.2.1.toInt ≤ 6) (hl20 : I.2.2.2.1 ≤ 20) (hcn : I.1 = nI cn) (hrn : I.2.1 = nI rn) (hc40 : cn ≤ 40) (hr16 : rn ≤ 16) (hQ : Q (some (.long (LX6_dgO I V cn rn 0 7))) h) : xV G l mX6_digest (d + 8) 0 0 0 0 10 [.ref (A 0), .long 7, xU, .int (nI 0), xU] [] h Q := by
  have inner : ∀ (n9 j : Nat) (ac : Int64) (r : Nat), r < rn → j + n9 = cn → xV G l mX6_digest (d + 8) 0 0 0 0 51 [.ref (A 0), .long (LX6_dgI I V r n9 j ac), xU, .int (nI r), .int (nI cn)] [] h Q → xV G l mX6_digest (d + 8) 0 0 0 0 21 [.ref (A 0), .long ac, xU, .int (nI r), .int (nI j)] [] h Q := by
    clear hQ
    intro n9 j ac r hr
    revert j ac
    induction n9 with
    | zero =>
      intro j ac hj hk
      rw [LX6_dgI] at hk
      refine x_iload dX6_digest_21 rfl ?_
      refine x_aload_n dX6_digest_23 rfl ?_
      refine x_get 0 dX6_digest_24 hM.1 rfl (by decide) (by decide +kernel) rfl ?_
      refine x_icmp_ge (tgt := 51) dX6_digest_27 (by decide) (fun _ => ?_) (fun z9 => absurd (by rw [hcn]; exact nI_le (by omega) (by omega)) z9)
      have ej : j = cn := by omega
      subst ej
      exact hk
    | succ n9 ih =>
      intro j ac hj hk
      rw [LX6_dgI] at hk
      refine x_iload dX6_digest_21 rfl ?_
      refine x_aload_n dX6_digest_23 rfl ?_
      refine x_get 0 dX6_digest_24 hM.1 rfl (by decide) (by decide +kernel) rfl ?_
      refine x_icmp_ge (tgt := 51) dX6_digest_27 (by decide) (fun z9 => absurd z9 (by rw [hcn]; exact nI_ge (by omega) (by omega))) (fun _ => ?_)
      refine x_ldc2 (v := 31) dX6_digest_30 (by decide +kernel) ?_
      refine x_lload_n dX6_digest_33 rfl ?_
      refine x_lmul dX6_digest_34 ?_
      refine x_aload_n dX6_digest_35 rfl ?_
      refine x_iload dX6_digest_36 rfl ?_
      refine x_iload_n dX6_digest_38 rfl ?_
      refine x_callV (M' := mX6_signAt) (mc' := 0) (ms' := 0) (As := [.int (nI j), .int (nI r)]) dX6_digest_39 gX6_digest_X6_signAt okX6_signAt rfl rfl hM.1 rfl (Nat.le_of_ble_eq_true rfl) (Nat.le_of_ble_eq_true rfl) (Nat.le_refl _) (Nat.le_refl _) (Nat.le_refl _) ?_
      refine kX6_signAt hM h6 hl20 (mcr_inI hcn hc40 hr16 (by omega) (by omega)) ?_
      show xV _ _ _ _ _ _ _ _ _ _ _ _ _
      refine x_i2l dX6_digest_42 ?_
      refine x_ladd dX6_digest_43 ?_
      refine x_lstore_n dX6_digest_44 (by decide) rfl ?_
      refine x_iinc (v := 1) dX6_digest_45 rfl (by decide) (by decide) rfl ?_
      refine x_goto (tgt := 21) dX6_digest_48 (by decide) ?_
      refine xV.sub (L' := [.ref (A 0), .long (((31 : Int64) * ac) + (Int32.toInt64 (FX6_signAt I V (nI j) (nI r)))), xU, .int (nI r), .int (nI (j + 1))]) ⟨Or.inr rfl, Or.inr rfl, Or.inl rfl, Or.inr rfl, Or.inr (congrArg Value.int (nI_1 j)), trivial⟩ (ih (j + 1) (((31 : Int64) * ac) + (Int32.toInt64 (FX6_signAt I V (nI j) (nI r)))) (by omega) hk)
  have outer : ∀ (n9 r : Nat) (ac : Int64), r + n9 = rn → Q (some (.long (LX6_dgO I V cn n9 r ac))) h → xV G l mX6_digest (d + 8) 0 0 0 0 10 [.ref (A 0), .long ac, xU, .int (nI r), xU] [] h Q := by
    clear hQ
    intro n9
    induction n9 with
    | zero =>
      intro r ac hr hQ
      rw [LX6_dgO] at hQ
      refine x_iload_n dX6_digest_10 rfl ?_
      refine x_aload_n dX6_digest_11 rfl ?_
      refine x_get 1 dX6_digest_12 hM.1 rfl (by decide) (by decide +kernel) rfl ?_
      refine x_icmp_ge (tgt := 57) dX6_digest_15 (by decide) (fun _ => ?_) (fun z9 => absurd (by rw [hrn]; exact nI_le (by omega) (by omega)) z9)
      refine x_lload_n dX6_digest_57 rfl ?_
      exact x_lret dX6_digest_58 rfl hQ
    | succ n9 ih =>
      intro r ac hr hQ
      rw [LX6_dgO] at hQ
      refine x_iload_n dX6_digest_10 rfl ?_
      refine x_aload_n dX6_digest_11 rfl ?_
      refine x_get 1 dX6_digest_12 hM.1 rfl (by decide) (by decide +kernel) rfl ?_
      refine x_icmp_ge (tgt := 57) dX6_digest_15 (by decide) (fun z9 => absurd z9 (by rw [hrn]; exact nI_ge (by omega) (by omega))) (fun _ => ?_)
      refine x_iconst (v := 0) dX6_digest_18 (by decide) ?_
      refine x_istore dX6_digest_19 (by decide) rfl ?_
      refine xV.sub (L' := [.ref (A 0), .long ac, xU, .int (nI r), .int (nI 0)]) ⟨Or.inr rfl, Or.inr rfl, Or.inl rfl, Or.inr rfl, Or.inr (congrArg Value.int nI_0.symm), trivial⟩ (inner cn 0 ac r (by omega) (by omega) ?_)
      refine x_iinc (v := 1) dX6_digest_51 rfl (by decide) (by decide) rfl ?_
      refine x_goto (tgt := 10) dX6_digest_54 (by decide) ?_
      refine xV.sub (L' := [.ref (A 0), .long (LX6_dgI I V r cn 0 ac), xU, .int (nI (r + 1)), xU]) ⟨Or.inr rfl, Or.inr rfl, Or.inl rfl, Or.inr (congrArg Value.int (nI_1 r)), Or.inl rfl, trivial⟩ (ih (r + 1) _ (by omega) hQ)
  exact outer rn 0 7 (by omega) hQ
set_option maxHeartbeats 4000000 in
set_option maxRecDepth 100000 in
theorem kX6_inked {G : xG} {l : Launch} {d : Nat} {h : xH} {Q : Option Value → xH → Prop} {A : Nat → Nat} {I : xMi} {V : Nat → Nat → Int32} {cn rn : Nat} (hM : xMod G A I V h) (hA : ∀ {i j : Nat}, i ≠ j → A i ≠ A j) (hR : mRdy I V) (hcn : I.1 = nI cn) (hrn : I.2.1 = nI rn) (hc40 : cn ≤ 40) (hr16 : rn ≤ 16) (hQ : ∀ h', xMod G A (mdI I) (drV I V) h' → xfM A h h' → Q (some (.int (LX6_cvO (mdI I) (drV I V) 0 cn rn 0 0))) h') : xV G l mX6_inked (d + 8) 0 0 0 0 0 [.ref (A 0), xU, xU, xU] [] h Q := by
  refine x_aload_n dX6_inked_0 rfl ?_
  refine x_callV (M' := mX6_draws) (mc' := 0) (ms' := 0) (As := []) dX6_inked_1 gX6_inked_X6_draws okX6_draws rfl rfl hM.1 rfl (Nat.le_of_ble_eq_true rfl) (Nat.le_of_ble_eq_true rfl) (Nat.le_refl _) (Nat.le_refl _) (Nat.le_refl _) ?_
  refine kX6_drawsR hM hA hR (fun h9 hM9 hF9 => ?_)
  have hM0 := hM
  clear hM
  have hM := hM9
  show xV _ _ _ _ _ _ _ _ _ _ _ _ _
  refine x_iconst (v := 0) dX6_inked_4 (by decide) ?_
  refine x_istore_n dX6_inked_5 (by decide) rfl ?_
  refine x_iconst (v := 0) dX6_inked_6 (by decide) ?_
  refine x_istore_n dX6_inked_7 (by decide) rfl ?_
  refine xV.sub (L' := [.ref (A 0), .int 0, .int (nI 0), xU]) ⟨Or.inr rfl, Or.inr rfl, Or.inr (congrArg Value.int nI_0.symm), Or.inl rfl, trivial⟩ (kX6_inkedT hM hR.1.2 hR.2.2.2.2.2.1.1 hcn hrn hc40 hr16 (hQ h9 hM9 hF9))
set_option maxHeartbeats 4000000 in
set_option maxRecDepth 100000 in
theorem kX6_digest {G : xG} {l : Launch} {d : Nat} {h : xH} {Q : Option Value → xH → Prop} {A : Nat → Nat} {I : xMi} {V : Nat → Nat → Int32} {cn rn : Nat} (hM : xMod G A I V h) (hA : ∀ {i j : Nat}, i ≠ j → A i ≠ A j) (hR : mRdy I V) (hcn : I.1 = nI cn) (hrn : I.2.1 = nI rn) (hc40 : cn ≤ 40) (hr16 : rn ≤ 16) (hQ : ∀ h', xMod G A (mdI I) (drV I V) h' → xfM A h h' → Q (some (.long (LX6_dgO (mdI I) (drV I V) cn rn 0 7))) h') : xV G l mX6_digest (d + 8) 0 0 0 0 0 [.ref (A 0), xU, xU, xU, xU] [] h Q := by
  refine x_aload_n dX6_digest_0 rfl ?_
  refine x_callV (M' := mX6_draws) (mc' := 0) (ms' := 0) (As := []) dX6_digest_1 gX6_digest_X6_draws okX6_draws rfl rfl hM.1 rfl (Nat.le_of_ble_eq_true rfl) (Nat.le_of_ble_eq_true rfl) (Nat.le_refl _) (Nat.le_refl _) (Nat.le_refl _) ?_
  refine kX6_drawsR hM hA hR (fun h9 hM9 hF9 => ?_)
  have hM0 := hM
  clear hM
  have hM := hM9
  show xV _ _ _ _ _ _ _ _ _ _ _ _ _
  refine x_ldc2 (v := 7) dX6_digest_4 (by decide +kernel) ?_
  refine x_lstore_n dX6_digest_7 (by decide) rfl ?_
  refine x_iconst (v := 0) dX6_digest_8 (by decide) ?_
  refine x_istore_n dX6_digest_9 (by decide) rfl ?_
  refine xV.sub (L' := [.ref (A 0), .long 7, xU, .int (nI 0), xU]) ⟨Or.inr rfl, Or.inr rfl, Or.inl rfl, Or.inr (congrArg Value.int nI_0.symm), Or.inl rfl, trivial⟩ (kX6_digestT hM hR.1.2 hR.2.2.2.2.2.1.1 hcn hrn hc40 hr16 (hQ h9 hM9 hF9))
def frG (I : xMi) (x y ln : Int32) : Int32 := if FX6_in y 0 (I.2.1 - 1) = 0 then 0 else (if x < 0 then 0 else (if I.1 < (x + ln) then 0 else 1))
def LX6_free (I : xMi) (V : Nat → Nat → Int32) (y : Int32) : Nat → Nat → Int32 → Int32
  | 0, _, f => f
  | n9 + 1, j, f => if f = 0 then f else LX6_free I V y n9 (j + 1) (if FX6_signAt I V (nI j) y = 32 then 1 else 0)
def FX6_isFree (I : xMi) (V : Nat → Nat → Int32) (x y : Int32) (w : Nat) : Int32 := if frG I x y (nI w) = 0 then 0 else LX6_free I V y w x.toNatClampNeg 1
theorem frG_01 {I : xMi} {x y z : Int32} : frG I x y z = 0 ∨ frG I x y z = 1 := by
  unfold frG
  repeat' (first | exact Or.inl rfl | exact Or.inr rfl | split)
theorem frG_of {I : xMi} {x y : Int32} {w cn rn : Nat} (hcn : I.1 = nI cn) (hrn : I.2.1 = nI rn) (hc : cn ≤ 40) (hr : rn ≤ 16) (hx : x.toInt ≤ 1000) (hw : w ≤ 10) (h : ¬ frG I x y (nI w) = 0) : ∃ a r : Nat, x = nI a ∧ y = nI r ∧ a + w ≤ cn ∧ r < rn := by
  unfold frG at h
  by_cases h2 : FX6_in y 0 (I.2.1 - 1) = 0
  · rw [if_pos h2] at h; exact absurd rfl h
  · rw [if_neg h2] at h
    have e1 : (1 : Int32).toInt = 1 := rfl
    have e0 : (0 : Int32).toInt = 0 := rfl
    have hy : vp_in y rn := by
      refine in_vp h2 ?_
      rw [hrn, Int32.toInt_sub, e1, nI_toInt (by omega)]
      have : ((rn : Int) - 1).bmod (2 ^ 32) = (rn : Int) - 1 := by rw [Int.bmod_def]; omega
      omega
    obtain ⟨r, hr3, rfl⟩ := vp_in_of hy (by omega)
    by_cases h3 : x < 0
    · rw [if_pos h3] at h; exact absurd rfl h
    · rw [if_neg h3] at h
      by_cases h4 : I.1 < x + nI w
      · rw [if_pos h4] at h; exact absurd rfl h
      · rw [Int32.lt_iff_toInt_lt] at h3 h4
        have hx2 : vp_in x 1001 := by rw [vp_in_iff]; omega
        obtain ⟨a, ha, rfl⟩ := vp_in_of hx2 (by decide)
        rw [hcn, nI_add, nI_toInt (by omega), nI_toInt (by omega)] at h4
        exact ⟨a, r, rfl, rfl, by omega, hr3⟩
set_option maxHeartbeats 4000000 in
set_option maxRecDepth 100000 in
theorem kX6_isFree {G : xG} {l : Launch} {d : Nat} {h : xH} {Q : Option Value → xH → Prop} {A : Nat → Nat} {I : xMi} {V : Nat → Nat → Int32} {x y : Int32} {w : Nat} (hM : xMod G A I V h) {cn rn : Nat} (h6 : I.2.2.1.toInt ≤ 6) (hl20 : I.2.2.2.1 ≤ 20) (hcn : I.1 = nI cn) (hrn : I.2.1 = nI rn) (hc40 : cn ≤ 40) (hr16 : rn ≤ 16) (hx : x.toInt ≤ 1000) (hw : w ≤ 10) (hQ : Q (some (.int (FX6_isFree I V x y w))) h) : xV G l mX6_isFree (d + 3) 0 0 0 0 0 [.ref (A 0), .int x, .int y, .int (nI w), xU, xU] [] h Q := by
  have loop : ∀ (a r : Nat), a + w ≤ cn → r < rn → ∀ (n9 j : Nat) (f : Int32), j + n9 = a + w → a ≤ j → (f = 0 ∨ f = 1) → Q (some (.int (LX6_free I V (nI r) n9 j f))) h → xV G l mX6_isFree (d + 3) 0 0 0 0 38 [.ref (A 0), .int (nI a), .int (nI r), .int (nI w), .int f, .int (nI j)] [] h Q := by
    clear hQ
    intro a r haw hr n9
    induction n9 with
    | zero =>
      intro j f hj ha hb hQ
      refine x_iload dX6_isFree_38 rfl ?_
      refine x_iload_n dX6_isFree_40 rfl ?_
      refine x_iload_n dX6_isFree_41 rfl ?_
      refine x_iadd dX6_isFree_42 ?_
      refine x_icmp_ge (tgt := 76) dX6_isFree_43 (by decide) (fun _ => ?_) (fun z9 => absurd (by rw [nI_add]; exact nI_le (by omega) (by omega)) z9)
      refine x_iload dX6_isFree_76 rfl ?_
      rw [LX6_free] at hQ
      exact x_zret dX6_isFree_78 rfl (nbz hb) hQ
    | succ n9 ih =>
      intro j f hj ha hb hQ
      refine x_iload dX6_isFree_38 rfl ?_
      refine x_iload_n dX6_isFree_40 rfl ?_
      refine x_iload_n dX6_isFree_41 rfl ?_
      refine x_iadd dX6_isFree_42 ?_
      refine x_icmp_ge (tgt := 76) dX6_isFree_43 (by decide) (fun z9 => absurd z9 (by rw [nI_add]; exact nI_ge (by omega) (by omega))) (fun _ => ?_)
      refine x_iload dX6_isFree_46 rfl ?_
      refine x_if_eq (tgt := 76) dX6_isFree_48 (by decide) (fun hc_48 => ?_) (fun hc_48 => ?_)
      · refine x_iload dX6_isFree_76 rfl ?_
        rw [LX6_free, if_pos hc_48] at hQ
        exact x_zret dX6_isFree_78 rfl (nbz hb) hQ
      · refine x_aload_n dX6_isFree_51 rfl ?_
        refine x_iload dX6_isFree_52 rfl ?_
        refine x_iload_n dX6_isFree_54 rfl ?_
        refine x_callV (M' := mX6_signAt) (mc' := 0) (ms' := 0) (As := [.int (nI j), .int (nI r)]) dX6_isFree_55 gX6_isFree_X6_signAt okX6_signAt rfl rfl hM.1 rfl (Nat.le_of_ble_eq_true rfl) (Nat.le_of_ble_eq_true rfl) (Nat.le_refl _) (Nat.le_refl _) (Nat.le_refl _) ?_
        refine kX6_signAt hM h6 hl20 (mcr_inI hcn hc40 hr16 (by omega) (by omega)) ?_
        show xV _ _ _ _ _ _ _ _ _ _ _ _ _
        refine x_bipush (v := 32) dX6_isFree_58 (by decide) ?_
        have J68 : xV G l mX6_isFree (d + 3) 0 0 0 0 68 [.ref (A 0), .int (nI a), .int (nI r), .int (nI w), .int f, .int (nI j)] [.int (if (FX6_signAt I V (nI j) (nI r)) = (32 : Int32) then (1 : Int32) else (0 : Int32))] h Q := by
          refine x_istore dX6_isFree_68 (by decide) rfl ?_
          refine x_iinc (v := 1) dX6_isFree_70 rfl (by decide) (by decide) rfl ?_
          refine x_goto (tgt := 38) dX6_isFree_73 (by decide) ?_
          rw [LX6_free, if_neg hc_48] at hQ
          refine xV.sub (L' := [.ref (A 0), .int (nI a), .int (nI r), .int (nI w), .int (if (FX6_signAt I V (nI j) (nI r)) = (32 : Int32) then (1 : Int32) else (0 : Int32)), .int (nI (j + 1))]) ⟨Or.inr rfl, Or.inr rfl, Or.inr rfl, Or.inr rfl, Or.inr rfl, Or.inr (congrArg Value.int (nI_1 j)), trivial⟩ (ih (j + 1) _ (by omega) (by omega) (by split <;> first | exact Or.inl rfl | exact Or.inr rfl) hQ)
        refine x_icmp_ne (tgt := 67) dX6_isFree_60 (by decide) (fun hc_60 => ?_) (fun hc_60 => ?_)
        · refine x_iconst (v := 0) dX6_isFree_67 (by decide) ?_
          exact x_ls rfl (by first | rfl | (rw [if_neg hc_60] <;> rfl) | (simp only [if_neg hc_60]; rfl) | (simp only [if_neg hc_60])) J68
        · refine x_iconst (v := 1) dX6_isFree_63 (by decide) ?_
          refine x_goto (tgt := 68) dX6_isFree_64 (by decide) ?_
          exact x_ls rfl (by first | rfl | (rw [if_pos hc_60] <;> rfl) | (simp only [if_pos hc_60]; rfl) | (simp only [if_pos hc_60])) J68
  refine x_iload_n dX6_isFree_0 rfl ?_
  refine x_iconst (v := 0) dX6_isFree_1 (by decide) ?_
  refine x_aload_n dX6_isFree_2 rfl ?_
  refine x_get 1 dX6_isFree_3 hM.1 rfl (by decide) (by decide +kernel) rfl ?_
  refine x_iconst (v := 1) dX6_isFree_6 (by decide) ?_
  refine x_isub dX6_isFree_7 ?_
  refine x_callS (M' := mX6_in) (mc' := 0) (ms' := 0) (As := [.int y, .int (0 : Int32), .int (I.2.1 - (1 : Int32))]) dX6_isFree_8 gX6_isFree_X6_in okX6_in rfl rfl (Nat.le_of_ble_eq_true rfl) (Nat.le_of_ble_eq_true rfl) (Nat.le_refl _) (Nat.le_refl _) (Nat.le_refl _) ?_
  refine kX6_in  ?_
  show xV _ _ _ _ _ _ _ _ _ _ _ _ _
  have J33 : xV G l mX6_isFree (d + 3) 0 0 0 0 33 [.ref (A 0), .int x, .int y, .int (nI w), xU, xU] [.int (if (FX6_in y (0 : Int32) (I.2.1 - (1 : Int32))) = 0 then (0 : Int32) else (if x < 0 then (0 : Int32) else (if I.1 < (x + (nI w)) then (0 : Int32) else (1 : Int32))))] h Q := by
    refine x_ls (st' := [.int (frG I x y (nI w))]) rfl rfl ?_
    refine x_istore dX6_isFree_33 (by decide) rfl ?_
    refine x_iload_n dX6_isFree_35 rfl ?_
    refine x_istore dX6_isFree_36 (by decide) rfl ?_
    by_cases hg : frG I x y (nI w) = 0
    · rw [FX6_isFree, if_pos hg] at hQ
      rw [hg]
      refine x_iload dX6_isFree_38 rfl ?_
      refine x_iload_n dX6_isFree_40 rfl ?_
      refine x_iload_n dX6_isFree_41 rfl ?_
      refine x_iadd dX6_isFree_42 ?_
      refine x_icmp_ge (tgt := 76) dX6_isFree_43 (by decide) (fun hc_43 => ?_) (fun hc_43 => ?_)
      · refine x_iload dX6_isFree_76 rfl ?_
        exact x_zret dX6_isFree_78 rfl (nbz (Or.inl rfl)) hQ
      · refine x_iload dX6_isFree_46 rfl ?_
        refine x_if_eq (tgt := 76) dX6_isFree_48 (by decide) (fun _ => ?_) (fun z9 => absurd rfl z9)
        refine x_iload dX6_isFree_76 rfl ?_
        exact x_zret dX6_isFree_78 rfl (nbz (Or.inl rfl)) hQ
    · rw [FX6_isFree, if_neg hg] at hQ
      obtain ⟨a, r, rfl, rfl, haw, hr⟩ := frG_of hcn hrn hc40 hr16 hx hw hg
      rw [nI_clamp (by omega)] at hQ
      have hg1 : frG I (nI a) (nI r) (nI w) = 1 := frG_01.resolve_left hg
      rw [hg1]
      exact loop a r haw hr w a 1 (by omega) (by omega) (Or.inr rfl) hQ
  refine x_if_eq (tgt := 32) dX6_isFree_11 (by decide) (fun hc_11 => ?_) (fun hc_11 => ?_)
  · refine x_iconst (v := 0) dX6_isFree_32 (by decide) ?_
    exact x_ls rfl (by first | rfl | (rw [if_pos hc_11] <;> rfl) | (simp only [if_pos hc_11]; rfl) | (simp only [if_pos hc_11])) J33
  · refine x_iload_n dX6_isFree_14 rfl ?_
    refine x_if_lt (tgt := 32) dX6_isFree_15 (by decide) (fun hc_15 => ?_) (fun hc_15 => ?_)
    · refine x_iconst (v := 0) dX6_isFree_32 (by decide) ?_
      exact x_ls rfl (by first | rfl | (rw [if_neg hc_11, if_pos hc_15] <;> rfl) | (simp only [if_neg hc_11, if_pos hc_15]; rfl) | (simp only [if_neg hc_11, if_pos hc_15])) J33
    · refine x_iload_n dX6_isFree_18 rfl ?_
      refine x_iload_n dX6_isFree_19 rfl ?_
      refine x_iadd dX6_isFree_20 ?_
      refine x_aload_n dX6_isFree_21 rfl ?_
      refine x_get 0 dX6_isFree_22 hM.1 rfl (by decide) (by decide +kernel) rfl ?_
      refine x_icmp_gt (tgt := 32) dX6_isFree_25 (by decide) (fun hc_25 => ?_) (fun hc_25 => ?_)
      · refine x_iconst (v := 0) dX6_isFree_32 (by decide) ?_
        exact x_ls rfl (by first | rfl | (rw [if_neg hc_11, if_neg hc_15, if_pos hc_25] <;> rfl) | (simp only [if_neg hc_11, if_neg hc_15, if_pos hc_25]; rfl) | (simp only [if_neg hc_11, if_neg hc_15, if_pos hc_25])) J33
      · refine x_iconst (v := 1) dX6_isFree_28 (by decide) ?_
        refine x_goto (tgt := 33) dX6_isFree_29 (by decide) ?_
        exact x_ls rfl (by first | rfl | (rw [if_neg hc_11, if_neg hc_15, if_neg hc_25] <;> rfl) | (simp only [if_neg hc_11, if_neg hc_15, if_neg hc_25]; rfl) | (simp only [if_neg hc_11, if_neg hc_15, if_neg hc_25])) J33
