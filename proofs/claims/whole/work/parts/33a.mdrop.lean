/-- a row of the labels behind the one at i is gone, so far as m -/
def shf (f : Nat → Int32) (i m : Nat) : Nat → Int32 := fun k => if i ≤ k ∧ k < m then f (k + 1) else f k
def shV (V : Nat → Nat → Int32) (i m : Nat) : Nat → Nat → Int32 := fun k => if 17 ≤ k ∧ k ≤ 21 then shf (V k) i m else V k
theorem shf_s {f : Nat → Int32} {i j : Nat} (h : i ≤ j) : upd (shf f i j) j (shf f i j (j + 1)) = shf f i (j + 1) := by
  funext k
  by_cases e : k = j
  · subst e
    rw [pk_us]
    simp only [shf]
    rw [if_neg (by omega), if_pos (by omega)]
  · rw [pk_un e]
    simp only [shf]
    by_cases h2 : i ≤ k ∧ k < j
    · rw [if_pos h2, if_pos (by omega)]
    · rw [if_neg h2, if_neg (by omega)]
theorem shf_0 {f : Nat → Int32} {i : Nat} : shf f i i = f := by
  funext k
  simp only [shf]
  rw [if_neg (by omega)]
theorem shV_0 {V : Nat → Nat → Int32} {i : Nat} : shV V i i = V := by
  funext k
  simp only [shV, shf_0]
  split <;> rfl
theorem shV_at {V : Nat → Nat → Int32} {i m k : Nat} (h : 17 ≤ k ∧ k ≤ 21) : shV V i m k = shf (V k) i m := if_pos h
theorem shV_c {V : Nat → Nat → Int32} {i j : Nat} (h : i ≤ j) (hj : j < 20) : (va_up (va_up (va_up (va_up (va_up (shV V i j) 17 (upd ((shV V i j) 17) (Int32.toNatClampNeg (nI j)) (((shV V i j) 17) (Int32.toNatClampNeg (nI j + 1))))) 18 (upd ((shV V i j) 18) (Int32.toNatClampNeg (nI j)) (((shV V i j) 18) (Int32.toNatClampNeg (nI j + 1))))) 19 (upd ((shV V i j) 19) (Int32.toNatClampNeg (nI j)) (((shV V i j) 19) (Int32.toNatClampNeg (nI j + 1))))) 20 (upd ((shV V i j) 20) (Int32.toNatClampNeg (nI j)) (((shV V i j) 20) (Int32.toNatClampNeg (nI j + 1))))) 21 (upd ((shV V i j) 21) (Int32.toNatClampNeg (nI j)) (((shV V i j) 21) (Int32.toNatClampNeg (nI j + 1))))) = shV V i (j + 1) := by
  rw [nI_1, nI_clamp (by omega), nI_clamp (by omega)]
  simp only [shV_at (V := V) (i := i) (m := j) (k := 17) (by omega), shV_at (V := V) (i := i) (m := j) (k := 18) (by omega), shV_at (V := V) (i := i) (m := j) (k := 19) (by omega), shV_at (V := V) (i := i) (m := j) (k := 20) (by omega), shV_at (V := V) (i := i) (m := j) (k := 21) (by omega), shf_s h]
  funext k
  simp only [va_up]
  by_cases h1 : k = 21
  · subst h1; rw [if_pos rfl, shV_at (by omega)]
  rw [if_neg h1]
  by_cases h2 : k = 20
  · subst h2; rw [if_pos rfl, shV_at (by omega)]
  rw [if_neg h2]
  by_cases h3 : k = 19
  · subst h3; rw [if_pos rfl, shV_at (by omega)]
  rw [if_neg h3]
  by_cases h4 : k = 18
  · subst h4; rw [if_pos rfl, shV_at (by omega)]
  rw [if_neg h4]
  by_cases h5 : k = 17
  · subst h5; rw [if_pos rfl, shV_at (by omega)]
  rw [if_neg h5]
  simp only [shV]
  rw [if_neg (by omega), if_neg (by omega)]
def mlI (I : xMi) (lb : Nat) : xMi := (I.1, I.2.1, I.2.2.1, nI lb, I.2.2.2.2)
set_option maxHeartbeats 4000000 in
set_option maxRecDepth 100000 in
theorem kX6_dropsLabel {G : xG} {l : Launch} {d : Nat} {h : xH} {Q : Option Value → xH → Prop} {A : Nat → Nat} {I : xMi} {V : Nat → Nat → Int32} {i lb : Nat} (hM : xMod G A I V h) (hA : ∀ {i j : Nat}, i ≠ j → A i ≠ A j) (hlb : I.2.2.2.1 = nI (lb + 1)) (h20 : lb < 20) (hi : i ≤ lb) (hQ : ∀ h', xMod G A (mlI I lb) (shV V i lb) h' → xfM A h h' → Q none h') : xV G l mX6_dropsLabel d 0 0 0 0 0 [.ref (A 0), .int (nI i), xU] [] h Q := by
  have loop : ∀ (n9 j : Nat) (h1 : xH), j + n9 = lb → i ≤ j → xMod G A (mlI I lb) (shV V i j) h1 → xfM A h h1 → xV G l mX6_dropsLabel d 0 0 0 0 12 [.ref (A 0), .int (nI i), .int (nI j)] [] h1 Q := by
    clear hM
    intro n9
    induction n9 with
    | zero =>
      intro j h1 hj hij hM hF
      refine x_iload_n dX6_dropsLabel_12 rfl ?_
      refine x_aload_n dX6_dropsLabel_13 rfl ?_
      refine x_get 16 dX6_dropsLabel_14 hM.1 rfl (by decide) (by decide +kernel) rfl ?_
      refine x_icmp_ge (tgt := 96) dX6_dropsLabel_17 (by decide) (fun _ => ?_) (fun z9 => absurd (nI_le (by omega) (by omega)) z9)
      have ej : j = lb := by omega
      subst ej
      exact x_vret dX6_dropsLabel_96 rfl (hQ h1 hM hF)
    | succ n9 ih =>
      intro j h1 hj hij hM hF
      refine x_iload_n dX6_dropsLabel_12 rfl ?_
      refine x_aload_n dX6_dropsLabel_13 rfl ?_
      refine x_get 16 dX6_dropsLabel_14 hM.1 rfl (by decide) (by decide +kernel) rfl ?_
      refine x_icmp_ge (tgt := 96) dX6_dropsLabel_17 (by decide) (fun z9 => absurd z9 (nI_ge (by omega) (by omega))) (fun _ => ?_)
      refine x_aload_n dX6_dropsLabel_20 rfl ?_
      refine x_get 17 dX6_dropsLabel_21 hM.1 rfl (by decide) (by decide +kernel) rfl ?_
      refine x_iload_n dX6_dropsLabel_24 rfl ?_
      refine x_aload_n dX6_dropsLabel_25 rfl ?_
      refine x_get 17 dX6_dropsLabel_26 hM.1 rfl (by decide) (by decide +kernel) rfl ?_
      refine x_iload_n dX6_dropsLabel_29 rfl ?_
      refine x_iconst (v := 1) dX6_dropsLabel_30 (by decide) ?_
      refine x_iadd dX6_dropsLabel_31 ?_
      refine x_iald dX6_dropsLabel_32 (hM.r 17 (by decide) (by decide)) (by rw [nI_1]; exact vp_in_nI (N := 20) (by omega) (by decide)) ?_
      refine x_iast dX6_dropsLabel_33 (hM.r 17 (by decide) (by decide)) (vp_in_nI (N := 20) (by omega) (by decide)) ?_
      refine x_aload_n dX6_dropsLabel_34 rfl ?_
      refine x_get 18 dX6_dropsLabel_35 (xup_k (hA (by decide)) hM.1) rfl (by decide) (by decide +kernel) rfl ?_
      refine x_iload_n dX6_dropsLabel_38 rfl ?_
      refine x_aload_n dX6_dropsLabel_39 rfl ?_
      refine x_get 18 dX6_dropsLabel_40 (xup_k (hA (by decide)) hM.1) rfl (by decide) (by decide +kernel) rfl ?_
      refine x_iload_n dX6_dropsLabel_43 rfl ?_
      refine x_iconst (v := 1) dX6_dropsLabel_44 (by decide) ?_
      refine x_iadd dX6_dropsLabel_45 ?_
      refine x_iald dX6_dropsLabel_46 (xup_k (hA (by decide)) (hM.r 18 (by decide) (by decide))) (by rw [nI_1]; exact vp_in_nI (N := 20) (by omega) (by decide)) ?_
      refine x_iast dX6_dropsLabel_47 (xup_k (hA (by decide)) (hM.r 18 (by decide) (by decide))) (vp_in_nI (N := 20) (by omega) (by decide)) ?_
      refine x_aload_n dX6_dropsLabel_48 rfl ?_
      refine x_get 19 dX6_dropsLabel_49 (xup_k (hA (by decide)) (xup_k (hA (by decide)) hM.1)) rfl (by decide) (by decide +kernel) rfl ?_
      refine x_iload_n dX6_dropsLabel_52 rfl ?_
      refine x_aload_n dX6_dropsLabel_53 rfl ?_
      refine x_get 19 dX6_dropsLabel_54 (xup_k (hA (by decide)) (xup_k (hA (by decide)) hM.1)) rfl (by decide) (by decide +kernel) rfl ?_
      refine x_iload_n dX6_dropsLabel_57 rfl ?_
      refine x_iconst (v := 1) dX6_dropsLabel_58 (by decide) ?_
      refine x_iadd dX6_dropsLabel_59 ?_
      refine x_iald dX6_dropsLabel_60 (xup_k (hA (by decide)) (xup_k (hA (by decide)) (hM.r 19 (by decide) (by decide)))) (by rw [nI_1]; exact vp_in_nI (N := 20) (by omega) (by decide)) ?_
      refine x_iast dX6_dropsLabel_61 (xup_k (hA (by decide)) (xup_k (hA (by decide)) (hM.r 19 (by decide) (by decide)))) (vp_in_nI (N := 20) (by omega) (by decide)) ?_
      refine x_aload_n dX6_dropsLabel_62 rfl ?_
      refine x_get 20 dX6_dropsLabel_63 (xup_k (hA (by decide)) (xup_k (hA (by decide)) (xup_k (hA (by decide)) hM.1))) rfl (by decide) (by decide +kernel) rfl ?_
      refine x_iload_n dX6_dropsLabel_66 rfl ?_
      refine x_aload_n dX6_dropsLabel_67 rfl ?_
      refine x_get 20 dX6_dropsLabel_68 (xup_k (hA (by decide)) (xup_k (hA (by decide)) (xup_k (hA (by decide)) hM.1))) rfl (by decide) (by decide +kernel) rfl ?_
      refine x_iload_n dX6_dropsLabel_71 rfl ?_
      refine x_iconst (v := 1) dX6_dropsLabel_72 (by decide) ?_
      refine x_iadd dX6_dropsLabel_73 ?_
      refine x_iald dX6_dropsLabel_74 (xup_k (hA (by decide)) (xup_k (hA (by decide)) (xup_k (hA (by decide)) (hM.r 20 (by decide) (by decide))))) (by rw [nI_1]; exact vp_in_nI (N := 20) (by omega) (by decide)) ?_
      refine x_iast dX6_dropsLabel_75 (xup_k (hA (by decide)) (xup_k (hA (by decide)) (xup_k (hA (by decide)) (hM.r 20 (by decide) (by decide))))) (vp_in_nI (N := 20) (by omega) (by decide)) ?_
      refine x_aload_n dX6_dropsLabel_76 rfl ?_
      refine x_get 21 dX6_dropsLabel_77 (xup_k (hA (by decide)) (xup_k (hA (by decide)) (xup_k (hA (by decide)) (xup_k (hA (by decide)) hM.1)))) rfl (by decide) (by decide +kernel) rfl ?_
      refine x_iload_n dX6_dropsLabel_80 rfl ?_
      refine x_aload_n dX6_dropsLabel_81 rfl ?_
      refine x_get 21 dX6_dropsLabel_82 (xup_k (hA (by decide)) (xup_k (hA (by decide)) (xup_k (hA (by decide)) (xup_k (hA (by decide)) hM.1)))) rfl (by decide) (by decide +kernel) rfl ?_
      refine x_iload_n dX6_dropsLabel_85 rfl ?_
      refine x_iconst (v := 1) dX6_dropsLabel_86 (by decide) ?_
      refine x_iadd dX6_dropsLabel_87 ?_
      refine x_iald dX6_dropsLabel_88 (xup_k (hA (by decide)) (xup_k (hA (by decide)) (xup_k (hA (by decide)) (xup_k (hA (by decide)) (hM.r 21 (by decide) (by decide)))))) (by rw [nI_1]; exact vp_in_nI (N := 20) (by omega) (by decide)) ?_
      refine x_iast dX6_dropsLabel_89 (xup_k (hA (by decide)) (xup_k (hA (by decide)) (xup_k (hA (by decide)) (xup_k (hA (by decide)) (hM.r 21 (by decide) (by decide)))))) (vp_in_nI (N := 20) (by omega) (by decide)) ?_
      refine x_iinc (v := 1) dX6_dropsLabel_90 rfl (by decide) (by decide) rfl ?_
      refine x_goto (tgt := 12) dX6_dropsLabel_93 (by decide) ?_
      have hM9 := (((((hM.w hA 17 (by decide) (upd ((shV V i j) 17) (Int32.toNatClampNeg (nI j)) (((shV V i j) 17) (Int32.toNatClampNeg (nI j + 1))))).w hA 18 (by decide) (upd ((shV V i j) 18) (Int32.toNatClampNeg (nI j)) (((shV V i j) 18) (Int32.toNatClampNeg (nI j + 1))))).w hA 19 (by decide) (upd ((shV V i j) 19) (Int32.toNatClampNeg (nI j)) (((shV V i j) 19) (Int32.toNatClampNeg (nI j + 1))))).w hA 20 (by decide) (upd ((shV V i j) 20) (Int32.toNatClampNeg (nI j)) (((shV V i j) 20) (Int32.toNatClampNeg (nI j + 1))))).w hA 21 (by decide) (upd ((shV V i j) 21) (Int32.toNatClampNeg (nI j)) (((shV V i j) 21) (Int32.toNatClampNeg (nI j + 1)))))
      rw [shV_c (by omega) (by omega)] at hM9
      refine xV.sub (L' := [.ref (A 0), .int (nI i), .int (nI (j + 1))]) ⟨Or.inr rfl, Or.inr rfl, Or.inr (congrArg Value.int (nI_1 j)), trivial⟩ (ih (j + 1) _ (by omega) (by omega) hM9 (hF.tr (fun a9 ha => by rw [xup_n (ha 21), xup_n (ha 20), xup_n (ha 19), xup_n (ha 18), xup_n (ha 17)])))
  refine x_aload_n dX6_dropsLabel_0 rfl ?_
  refine x_dup dX6_dropsLabel_1 rfl ?_
  refine x_get 16 dX6_dropsLabel_2 hM.1 rfl (by decide) (by decide +kernel) rfl ?_
  refine x_iconst (v := 1) dX6_dropsLabel_5 (by decide) ?_
  refine x_isub dX6_dropsLabel_6 ?_
  refine x_put 16 dX6_dropsLabel_7 hM.1 rfl (by decide) (by decide +kernel) rfl rfl rfl rfl (Nat.le_of_ble_eq_true rfl) ?_
  refine x_iload_n dX6_dropsLabel_10 rfl ?_
  refine x_istore_n dX6_dropsLabel_11 (by decide) rfl ?_
  have hl : I.2.2.2.1 - 1 = nI lb := by rw [hlb, nI_pred]
  have hM1 := hM.o hA (mlI I lb)
  rw [← shV_0 (V := V) (i := i)] at hM1
  rw [hl]
  exact loop (lb - i) i _ (by omega) (by omega) hM1 (fun a9 ha => by rw [xup_n (ha 0)])
def LX6_drp (s t : Int32) : Nat → Nat × (Nat → Nat → Int32) → Nat × (Nat → Nat → Int32)
  | 0, z => z
  | i + 1, z => LX6_drp s t i (if z.2 20 i = s then (if z.2 21 i = t then (z.1 - 1, shV z.2 i (z.1 - 1)) else z) else z)
/-- the labels, and the rest, behind drop -/
def FX6_drp (I : xMi) (V : Nat → Nat → Int32) (s : Int32) : Nat × (Nat → Nat → Int32) := LX6_drp s (V 11 (Int32.toNatClampNeg s) - 1) (I.2.2.2.1).toNatClampNeg ((I.2.2.2.1).toNatClampNeg, va_up V 11 (upd (V 11) (Int32.toNatClampNeg s) (V 11 (Int32.toNatClampNeg s) - 1)))
theorem shV_11 {V : Nat → Nat → Int32} {i m : Nat} : shV V i m 11 = V 11 := rfl
set_option maxHeartbeats 4000000 in
set_option maxRecDepth 100000 in
theorem kX6_drop {G : xG} {l : Launch} {d : Nat} {h : xH} {Q : Option Value → xH → Prop} {A : Nat → Nat} {I : xMi} {V : Nat → Nat → Int32} {s : Int32} (hM : xMod G A I V h) (hA : ∀ {i j : Nat}, i ≠ j → A i ≠ A j) (h6 : I.2.2.1.toInt ≤ 6) (h0 : 0 ≤ I.2.2.1.toInt) (hlb : I.2.2.2.1 = nI (I.2.2.2.1).toNatClampNeg) (hl20 : (I.2.2.2.1).toNatClampNeg ≤ 20) (hQ : if FX6_isSeries I V s = 0 then Q (some (.int (-1))) h else if V 11 (Int32.toNatClampNeg s) = 0 then Q (some (.int (-2))) h else (∀ h', xMod G A (I.1, I.2.1, I.2.2.1, nI (FX6_drp I V s).1, 0) (FX6_drp I V s).2 h' → xfM A h h' → Q (some (.int (V 11 (Int32.toNatClampNeg s) - 1))) h')) : xV G l mX6_drop (d + 2) 0 0 0 0 0 [.ref (A 0), .int s, xU] [] h Q := by
  have loop : (∀ h', xMod G A (I.1, I.2.1, I.2.2.1, nI (FX6_drp I V s).1, 0) (FX6_drp I V s).2 h' → xfM A h h' → Q (some (.int (V 11 (Int32.toNatClampNeg s) - 1))) h') → vp_in s 6 → ∀ (n9 lb : Nat) (W9 : Nat → Nat → Int32) (h1 : xH), n9 ≤ lb → lb ≤ 20 → W9 11 = upd (V 11) (Int32.toNatClampNeg s) (V 11 (Int32.toNatClampNeg s) - 1) → LX6_drp s (V 11 (Int32.toNatClampNeg s) - 1) n9 (lb, W9) = FX6_drp I V s → xMod G A (mlI I lb) W9 h1 → xfM A h h1 → xV G l mX6_drop (d + 2) 0 0 0 0 39 [.ref (A 0), .int s, .int (nI n9 - 1)] [] h1 Q := by
    intro hQ9 hs n9
    clear hM hQ hl20 hlb
    have hQ := hQ9
    clear hQ9
    induction n9 with
    | zero =>
      intro lb W9 h1 hn hl20 h11 hf hM hF
      refine x_iload_n dX6_drop_39 rfl ?_
      refine x_if_lt (tgt := 79) dX6_drop_40 (by decide) (fun _ => ?_) (fun z9 => absurd (by decide) z9)
      refine x_aload_n dX6_drop_79 rfl ?_
      refine x_iconst (v := 0) dX6_drop_80 (by decide) ?_
      refine x_put 22 dX6_drop_81 hM.1 rfl (by decide) (by decide +kernel) rfl rfl rfl rfl (Nat.le_of_ble_eq_true rfl) ?_
      refine x_aload_n dX6_drop_84 rfl ?_
      refine x_get 11 dX6_drop_85 xup_s rfl (by decide) (by decide +kernel) rfl ?_
      refine x_iload_n dX6_drop_88 rfl ?_
      refine x_iald dX6_drop_89 (xup_k (hA (by decide)) (hM.r 11 (by decide) (by decide))) hs ?_
      refine x_iret dX6_drop_90 rfl ?_
      rw [h11, pk_us]
      rw [LX6_drp] at hf
      rw [← hf] at hQ
      exact hQ _ (hM.o hA (I.1, I.2.1, I.2.2.1, nI lb, 0)) (hF.tr (fun a9 ha => by rw [xup_n (ha 0)]))
    | succ n9 ih =>
      intro lb W9 h1 hn hl20 h11 hf hM hF
      refine xV.sub (L' := [.ref (A 0), .int s, .int (nI n9)]) ⟨Or.inr rfl, Or.inr rfl, Or.inr (congrArg Value.int (nI_pred n9)), trivial⟩ ?_
      refine x_iload_n dX6_drop_39 rfl ?_
      refine x_if_lt (tgt := 79) dX6_drop_40 (by decide) (fun z9 => absurd z9 (nI_pos (by omega))) (fun _ => ?_)
      refine x_aload_n dX6_drop_43 rfl ?_
      refine x_get 20 dX6_drop_44 hM.1 rfl (by decide) (by decide +kernel) rfl ?_
      refine x_iload_n dX6_drop_47 rfl ?_
      refine x_iald dX6_drop_48 (hM.r 20 (by decide) (by decide)) (vp_in_nI (N := 20) (by omega) (by decide)) ?_
      refine x_iload_n dX6_drop_49 rfl ?_
      refine x_icmp_ne (tgt := 73) dX6_drop_50 (by decide) (fun hc_50 => ?_) (fun hc_50 => ?_)
      · refine x_iinc (v := (-1)) dX6_drop_73 rfl (by decide) (by decide) rfl ?_
        refine x_goto (tgt := 39) dX6_drop_76 (by decide) ?_
        have k20 : W9 20 n9 = W9 20 (Int32.toNatClampNeg (nI n9)) := by rw [nI_clamp (by omega)]
        rw [LX6_drp, if_neg (fun z => hc_50 (k20.symm.trans z))] at hf
        refine xV.sub (L' := [.ref (A 0), .int s, .int (nI n9 - 1)]) ⟨Or.inr rfl, Or.inr rfl, Or.inr (congrArg Value.int (xneg1 n9)), trivial⟩ (ih lb W9 h1 (by omega) hl20 h11 hf hM hF)
      · refine x_aload_n dX6_drop_53 rfl ?_
        refine x_get 21 dX6_drop_54 hM.1 rfl (by decide) (by decide +kernel) rfl ?_
        refine x_iload_n dX6_drop_57 rfl ?_
        refine x_iald dX6_drop_58 (hM.r 21 (by decide) (by decide)) (vp_in_nI (N := 20) (by omega) (by decide)) ?_
        refine x_aload_n dX6_drop_59 rfl ?_
        refine x_get 11 dX6_drop_60 hM.1 rfl (by decide) (by decide +kernel) rfl ?_
        refine x_iload_n dX6_drop_63 rfl ?_
        refine x_iald dX6_drop_64 (hM.r 11 (by decide) (by decide)) hs ?_
        refine x_icmp_ne (tgt := 73) dX6_drop_65 (by decide) (fun hc_65 => ?_) (fun hc_65 => ?_)
        · refine x_iinc (v := (-1)) dX6_drop_73 rfl (by decide) (by decide) rfl ?_
          refine x_goto (tgt := 39) dX6_drop_76 (by decide) ?_
          have k20 : W9 20 n9 = W9 20 (Int32.toNatClampNeg (nI n9)) := by rw [nI_clamp (by omega)]
          have k21 : W9 21 n9 = W9 21 (Int32.toNatClampNeg (nI n9)) := by rw [nI_clamp (by omega)]
          have kp : W9 11 (Int32.toNatClampNeg s) = V 11 (Int32.toNatClampNeg s) - 1 := by rw [h11, pk_us]
          rw [LX6_drp, if_pos (k20.trans hc_50), if_neg (fun z => hc_65 ((k21.symm.trans z).trans kp.symm))] at hf
          refine xV.sub (L' := [.ref (A 0), .int s, .int (nI n9 - 1)]) ⟨Or.inr rfl, Or.inr rfl, Or.inr (congrArg Value.int (xneg1 n9)), trivial⟩ (ih lb W9 h1 (by omega) hl20 h11 hf hM hF)
        · refine x_aload_n dX6_drop_68 rfl ?_
          refine x_iload_n dX6_drop_69 rfl ?_
          refine x_callV (M' := mX6_dropsLabel) (mc' := 0) (ms' := 0) (As := [.int (nI n9)]) dX6_drop_70 gX6_drop_X6_dropsLabel okX6_dropsLabel rfl rfl hM.1 rfl (Nat.le_of_ble_eq_true rfl) (Nat.le_of_ble_eq_true rfl) (Nat.le_refl _) (Nat.le_refl _) (Nat.le_refl _) ?_
          obtain ⟨lb, rfl⟩ : ∃ k, lb = k + 1 := ⟨lb - 1, by omega⟩
          refine kX6_dropsLabel hM hA rfl (by omega) (by omega) (fun h9 hM9 hF9 => ?_)
          show xV _ _ _ _ _ _ _ _ _ _ _ _ _
          refine x_iinc (v := (-1)) dX6_drop_73 rfl (by decide) (by decide) rfl ?_
          refine x_goto (tgt := 39) dX6_drop_76 (by decide) ?_
          have k20 : W9 20 n9 = W9 20 (Int32.toNatClampNeg (nI n9)) := by rw [nI_clamp (by omega)]
          have k21 : W9 21 n9 = W9 21 (Int32.toNatClampNeg (nI n9)) := by rw [nI_clamp (by omega)]
          have kp : W9 11 (Int32.toNatClampNeg s) = V 11 (Int32.toNatClampNeg s) - 1 := by rw [h11, pk_us]
          rw [LX6_drp, if_pos (k20.trans hc_50), if_pos ((k21.trans hc_65).trans kp)] at hf
          refine xV.sub (L' := [.ref (A 0), .int s, .int (nI n9 - 1)]) ⟨Or.inr rfl, Or.inr rfl, Or.inr (congrArg Value.int (xneg1 n9)), trivial⟩ (ih lb _ h9 (by omega) (by omega) (by rw [shV_11]; exact h11) hf hM9 (hF.tr hF9))
  refine x_aload_n dX6_drop_0 rfl ?_
  refine x_iload_n dX6_drop_1 rfl ?_
  refine x_callV (M' := mX6_isSeries) (mc' := 0) (ms' := 0) (As := [.int s]) dX6_drop_2 gX6_drop_X6_isSeries okX6_isSeries rfl rfl hM.1 rfl (Nat.le_of_ble_eq_true rfl) (Nat.le_of_ble_eq_true rfl) (Nat.le_refl _) (Nat.le_refl _) (Nat.le_refl _) ?_
  refine kX6_isSeries hM  ?_
  show xV _ _ _ _ _ _ _ _ _ _ _ _ _
  refine x_if_ne (tgt := 10) dX6_drop_5 (by decide) (fun hc_5 => ?_) (fun hc_5 => ?_)
  · refine x_aload_n dX6_drop_10 rfl ?_
    refine x_get 11 dX6_drop_11 hM.1 rfl (by decide) (by decide +kernel) rfl ?_
    refine x_iload_n dX6_drop_14 rfl ?_
    refine x_iald dX6_drop_15 (hM.r 11 (by decide) (by decide)) (ser_in h6 h0 hc_5) ?_
    refine x_if_ne (tgt := 22) dX6_drop_16 (by decide) (fun hc_16 => ?_) (fun hc_16 => ?_)
    · refine x_aload_n dX6_drop_22 rfl ?_
      refine x_get 11 dX6_drop_23 hM.1 rfl (by decide) (by decide +kernel) rfl ?_
      refine x_iload_n dX6_drop_26 rfl ?_
      refine x_dup2 dX6_drop_27 rfl rfl ?_
      refine x_iald dX6_drop_28 (hM.r 11 (by decide) (by decide)) (ser_in h6 h0 hc_5) ?_
      refine x_iconst (v := 1) dX6_drop_29 (by decide) ?_
      refine x_isub dX6_drop_30 ?_
      refine x_iast dX6_drop_31 (hM.r 11 (by decide) (by decide)) (ser_in h6 h0 hc_5) ?_
      refine x_aload_n dX6_drop_32 rfl ?_
      refine x_get 16 dX6_drop_33 (xup_k (hA (by decide)) hM.1) rfl (by decide) (by decide +kernel) rfl ?_
      refine x_iconst (v := 1) dX6_drop_36 (by decide) ?_
      refine x_isub dX6_drop_37 ?_
      refine x_istore_n dX6_drop_38 (by decide) rfl ?_
      rw [if_neg hc_5, if_neg hc_16] at hQ
      have hM1 := hM.w hA 11 (by decide) (upd (V 11) (Int32.toNatClampNeg s) (V 11 (Int32.toNatClampNeg s) - 1))
      rw [show I = mlI I (I.2.2.2.1).toNatClampNeg from Prod.ext rfl (Prod.ext rfl (Prod.ext rfl (Prod.ext hlb rfl)))] at hM1
      refine xV.sub (L' := [.ref (A 0), .int s, .int (nI (I.2.2.2.1).toNatClampNeg - 1)]) ⟨Or.inr rfl, Or.inr rfl, Or.inr (by rw [← hlb]), trivial⟩ (loop hQ (ser_in h6 h0 hc_5) (I.2.2.2.1).toNatClampNeg (I.2.2.2.1).toNatClampNeg _ _ (Nat.le_refl _) hl20 rfl rfl hM1 (fun a9 ha => by rw [xup_n (ha 11)]))
    · refine x_bipush (v := (-2)) dX6_drop_19 (by decide) ?_
      rw [if_neg hc_5, if_pos hc_16] at hQ
      exact x_iret dX6_drop_21 rfl hQ
  · refine x_iconst (v := (-1)) dX6_drop_8 (by decide) ?_
    rw [if_pos hc_5] at hQ
    exact x_iret dX6_drop_9 rfl hQ
