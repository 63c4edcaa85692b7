def LX6_fitI (V : Nat → Nat → Int32) (ax : Int32) (k : Nat) : Nat → Nat → Int32 → Int32 → Int32 × Int32
  | 0, _, lo, hi => (lo, hi)
  | n9 + 1, j, lo, hi => if V 15 (24 * k + j) = 0 then LX6_fitI V ax k n9 (j + 1) (if lo ≤ (if (-1000000 : Int32) ≤ (if ax = 0 then ((V 12) (24 * k + j)) else (((V 13) (24 * k + j)) - ((V 14) (24 * k + j)))) then (if ax = 0 then ((V 12) (24 * k + j)) else (((V 13) (24 * k + j)) - ((V 14) (24 * k + j)))) else (-1000000 : Int32)) then lo else (if (-1000000 : Int32) ≤ (if ax = 0 then ((V 12) (24 * k + j)) else (((V 13) (24 * k + j)) - ((V 14) (24 * k + j)))) then (if ax = 0 then ((V 12) (24 * k + j)) else (((V 13) (24 * k + j)) - ((V 14) (24 * k + j)))) else (-1000000 : Int32))) (if (if (if ax = 0 then ((V 12) (24 * k + j)) else (((V 13) (24 * k + j)) + ((V 14) (24 * k + j)))) ≤ (1000000 : Int32) then (if ax = 0 then ((V 12) (24 * k + j)) else (((V 13) (24 * k + j)) + ((V 14) (24 * k + j)))) else (1000000 : Int32)) ≤ hi then hi else (if (if ax = 0 then ((V 12) (24 * k + j)) else (((V 13) (24 * k + j)) + ((V 14) (24 * k + j)))) ≤ (1000000 : Int32) then (if ax = 0 then ((V 12) (24 * k + j)) else (((V 13) (24 * k + j)) + ((V 14) (24 * k + j)))) else (1000000 : Int32))) else LX6_fitI V ax k n9 (j + 1) lo hi
def LX6_fitO (V : Nat → Nat → Int32) (ax : Int32) : Nat → Nat → Int32 → Int32 → Int32 × Int32
  | 0, _, lo, hi => (lo, hi)
  | n9 + 1, k, lo, hi => LX6_fitO V ax n9 (k + 1) (LX6_fitI V ax k (V 11 k).toNatClampNeg 0 lo hi).1 (LX6_fitI V ax k (V 11 k).toNatClampNeg 0 lo hi).2
def FX6_fitR (I : xMi) (V : Nat → Nat → Int32) (ax : Int32) : Int32 × Int32 := LX6_fitO V ax (I.2.2.1).toNatClampNeg 0 1000001 (-1000001)
set_option maxHeartbeats 4000000 in
set_option maxRecDepth 100000 in
theorem kX6_fit {G : xG} {l : Launch} {d : Nat} {h : xH} {Q : Option Value → xH → Prop} {A : Nat → Nat} {I : xMi} {V : Nat → Nat → Int32} {ax : Int32} (hM : xMod G A I V h) (hA : ∀ {i j : Nat}, i ≠ j → A i ≠ A j) (h6 : I.2.2.1.toInt ≤ 6) (h0 : 0 ≤ I.2.2.1.toInt) (hpt : ∀ j, j < 6 → 0 ≤ (V 11 j).toInt ∧ (V 11 j).toInt ≤ 24) (hQ : (if (FX6_isAxis ax) = 0 then Q (some (.int (-1 : Int32))) h else (if (FX6_fitR I V ax).2 < (FX6_fitR I V ax).1 then Q (some (.int (-2 : Int32))) h else (if (FX6_fitR I V ax).1 = (1000000 : Int32) then Q (some (.int (-2 : Int32))) h else (∀ h', xMod G A (I.1, I.2.1, I.2.2.1, I.2.2.2.1, 0) (va_up (va_up (va_up V 3 (upd (V 3) (Int32.toNatClampNeg ax) (FX6_fitR I V ax).1)) 4 (upd (V 4) (Int32.toNatClampNeg ax) (if (FX6_fitR I V ax).1 = (FX6_fitR I V ax).2 then ((FX6_fitR I V ax).2 + (1 : Int32)) else (FX6_fitR I V ax).2))) 2 (upd ((va_up (va_up V 3 (upd (V 3) (Int32.toNatClampNeg ax) (FX6_fitR I V ax).1)) 4 (upd (V 4) (Int32.toNatClampNeg ax) (if (FX6_fitR I V ax).1 = (FX6_fitR I V ax).2 then ((FX6_fitR I V ax).2 + (1 : Int32)) else (FX6_fitR I V ax).2))) 2) (Int32.toNatClampNeg ax) (0 : Int32))) h' → xfM A h h' → Q (some (.int (1 : Int32))) h'))))) : xV G l mX6_fit (d + 2) 0 0 0 0 0 [.ref (A 0), .int ax, xU, xU, xU, xU, xU, xU] [] h Q := by
  have hm6 : (I.2.2.1).toNatClampNeg ≤ 6 := by unfold Int32.toNatClampNeg; omega
  have inner : ∀ (k : Nat), k < 6 → ∀ (n9 j : Nat) (lo hi : Int32), j + n9 = (V 11 k).toNatClampNeg → xV G l mX6_fit (d + 2) 0 0 0 0 188 [.ref (A 0), .int ax, .int (LX6_fitI V ax k n9 j lo hi).1, .int (LX6_fitI V ax k n9 j lo hi).2, .int (nI k), xU, xU, xU] [] h Q → xV G l mX6_fit (d + 2) 0 0 0 0 34 [.ref (A 0), .int ax, .int lo, .int hi, .int (nI k), .int (nI (24 * k + j)), xU, xU] [] h Q := by
    clear hQ
    intro k hk6 n9
    have e11 : V 11 (Int32.toNatClampNeg (nI k)) = nI (V 11 k).toNatClampNeg := by rw [nI_clamp (by omega)]; exact nI_ofT (hpt k (by omega)).1
    have eb : (24 : Int32) * nI k + V 11 (Int32.toNatClampNeg (nI k)) = nI (24 * k + (V 11 k).toNatClampNeg) := by rw [e11, show (24 : Int32) = nI 24 from rfl, pk_mul, nI_add]
    have hp24 : (V 11 k).toNatClampNeg ≤ 24 := by have := hpt k (by omega); unfold Int32.toNatClampNeg; omega
    induction n9 with
    | zero =>
      intro j lo hi hj hk
      rw [LX6_fitI] at hk
      refine x_iload dX6_fit_34 rfl ?_
      refine x_bipush (v := 24) dX6_fit_36 (by decide) ?_
      refine x_iload dX6_fit_38 rfl ?_
      refine x_imul dX6_fit_40 ?_
      refine x_aload_n dX6_fit_41 rfl ?_
      refine x_get 11 dX6_fit_42 hM.1 rfl (by decide) (by decide +kernel) rfl ?_
      refine x_iload dX6_fit_45 rfl ?_
      refine x_iald dX6_fit_47 (hM.r 11 (by decide) (by decide)) (vp_in_nI (N := 6) (by omega) (by decide)) ?_
      refine x_iadd dX6_fit_48 ?_
      refine x_icmp_ge (tgt := 188) dX6_fit_49 (by decide) (fun _ => ?_) (fun z9 => absurd (by rw [eb]; exact nI_le (by omega) (by omega)) z9)
      refine xV.sub (L' := [.ref (A 0), .int ax, .int lo, .int hi, .int (nI k), xU, xU, xU]) ⟨Or.inr rfl, Or.inr rfl, Or.inr rfl, Or.inr rfl, Or.inr rfl, Or.inl rfl, Or.inl rfl, Or.inl rfl, trivial⟩ hk
    | succ n9 ih =>
      intro j lo hi hj hk
      have ep : Int32.toNatClampNeg (nI (24 * k + j)) = 24 * k + j := nI_clamp (by omega)
      refine x_iload dX6_fit_34 rfl ?_
      refine x_bipush (v := 24) dX6_fit_36 (by decide) ?_
      refine x_iload dX6_fit_38 rfl ?_
      refine x_imul dX6_fit_40 ?_
      refine x_aload_n dX6_fit_41 rfl ?_
      refine x_get 11 dX6_fit_42 hM.1 rfl (by decide) (by decide +kernel) rfl ?_
      refine x_iload dX6_fit_45 rfl ?_
      refine x_iald dX6_fit_47 (hM.r 11 (by decide) (by decide)) (vp_in_nI (N := 6) (by omega) (by decide)) ?_
      refine x_iadd dX6_fit_48 ?_
      refine x_icmp_ge (tgt := 188) dX6_fit_49 (by decide) (fun z9 => absurd z9 (by rw [eb]; exact nI_ge (by omega) (by omega))) (fun _ => ?_)
      refine x_aload_n dX6_fit_52 rfl ?_
      refine x_get 15 dX6_fit_53 hM.1 rfl (by decide) (by decide +kernel) rfl ?_
      refine x_iload dX6_fit_56 rfl ?_
      refine x_zald dX6_fit_58 hM.z (vp_in_nI (N := 144) (by omega) (by decide)) ?_
      refine x_if_ne (tgt := 182) dX6_fit_59 (by decide) (fun hc_59 => ?_) (fun hc_59 => ?_)
      · refine x_iinc (v := 1) dX6_fit_182 rfl (by decide) (by decide) rfl ?_
        refine x_goto (tgt := 34) dX6_fit_185 (by decide) ?_
        rw [LX6_fitI, if_neg (by rw [nI_clamp (by omega)] at hc_59; exact hc_59)] at hk
        refine xV.sub (L' := [.ref (A 0), .int ax, .int lo, .int hi, .int (nI k), .int (nI (24 * k + (j + 1))), xU, xU]) ⟨Or.inr rfl, Or.inr rfl, Or.inr rfl, Or.inr rfl, Or.inr rfl, Or.inr (congrArg Value.int (by rw [nI_1]; rfl)), Or.inl rfl, Or.inl rfl, trivial⟩ (ih (j + 1) _ _ (by omega) hk)
      · refine x_iload_n dX6_fit_62 rfl ?_
        have J91 : xV G l mX6_fit (d + 2) 0 0 0 0 91 [.ref (A 0), .int ax, .int lo, .int hi, .int (nI k), .int (nI (24 * k + j)), xU, xU] [.int (if ax = 0 then ((V 12) (Int32.toNatClampNeg (nI (24 * k + j)))) else (((V 13) (Int32.toNatClampNeg (nI (24 * k + j)))) - ((V 14) (Int32.toNatClampNeg (nI (24 * k + j))))))] h Q := by
          refine x_istore dX6_fit_91 (by decide) rfl ?_
          refine x_iload_n dX6_fit_93 rfl ?_
          have J122 : xV G l mX6_fit (d + 2) 0 0 0 0 122 [.ref (A 0), .int ax, .int lo, .int hi, .int (nI k), .int (nI (24 * k + j)), .int (if ax = 0 then ((V 12) (Int32.toNatClampNeg (nI (24 * k + j)))) else (((V 13) (Int32.toNatClampNeg (nI (24 * k + j)))) - ((V 14) (Int32.toNatClampNeg (nI (24 * k + j)))))), xU] [.int (if ax = 0 then ((V 12) (Int32.toNatClampNeg (nI (24 * k + j)))) else (((V 13) (Int32.toNatClampNeg (nI (24 * k + j)))) + ((V 14) (Int32.toNatClampNeg (nI (24 * k + j))))))] h Q := by
            refine x_istore dX6_fit_122 (by decide) rfl ?_
            refine x_iload dX6_fit_124 rfl ?_
            refine x_ldc (v := (-1000000)) dX6_fit_126 (by decide +kernel) ?_
            have J138 : xV G l mX6_fit (d + 2) 0 0 0 0 138 [.ref (A 0), .int ax, .int lo, .int hi, .int (nI k), .int (nI (24 * k + j)), .int (if ax = 0 then ((V 12) (Int32.toNatClampNeg (nI (24 * k + j)))) else (((V 13) (Int32.toNatClampNeg (nI (24 * k + j)))) - ((V 14) (Int32.toNatClampNeg (nI (24 * k + j)))))), .int (if ax = 0 then ((V 12) (Int32.toNatClampNeg (nI (24 * k + j)))) else (((V 13) (Int32.toNatClampNeg (nI (24 * k + j)))) + ((V 14) (Int32.toNatClampNeg (nI (24 * k + j))))))] [.int (if (-1000000 : Int32) ≤ (if ax = 0 then ((V 12) (Int32.toNatClampNeg (nI (24 * k + j)))) else (((V 13) (Int32.toNatClampNeg (nI (24 * k + j)))) - ((V 14) (Int32.toNatClampNeg (nI (24 * k + j)))))) then (if ax = 0 then ((V 12) (Int32.toNatClampNeg (nI (24 * k + j)))) else (((V 13) (Int32.toNatClampNeg (nI (24 * k + j)))) - ((V 14) (Int32.toNatClampNeg (nI (24 * k + j)))))) else (-1000000 : Int32))] h Q := by
              refine x_istore dX6_fit_138 (by decide) rfl ?_
              refine x_iload dX6_fit_140 rfl ?_
              refine x_ldc (v := 1000000) dX6_fit_142 (by decide +kernel) ?_
              have J154 : xV G l mX6_fit (d + 2) 0 0 0 0 154 [.ref (A 0), .int ax, .int lo, .int hi, .int (nI k), .int (nI (24 * k + j)), .int (if (-1000000 : Int32) ≤ (if ax = 0 then ((V 12) (Int32.toNatClampNeg (nI (24 * k + j)))) else (((V 13) (Int32.toNatClampNeg (nI (24 * k + j)))) - ((V 14) (Int32.toNatClampNeg (nI (24 * k + j)))))) then (if ax = 0 then ((V 12) (Int32.toNatClampNeg (nI (24 * k + j)))) else (((V 13) (Int32.toNatClampNeg (nI (24 * k + j)))) - ((V 14) (Int32.toNatClampNeg (nI (24 * k + j)))))) else (-1000000 : Int32)), .int (if ax = 0 then ((V 12) (Int32.toNatClampNeg (nI (24 * k + j)))) else (((V 13) (Int32.toNatClampNeg (nI (24 * k + j)))) + ((V 14) (Int32.toNatClampNeg (nI (24 * k + j))))))] [.int (if (if ax = 0 then ((V 12) (Int32.toNatClampNeg (nI (24 * k + j)))) else (((V 13) (Int32.toNatClampNeg (nI (24 * k + j)))) + ((V 14) (Int32.toNatClampNeg (nI (24 * k + j)))))) ≤ (1000000 : Int32) then (if ax = 0 then ((V 12) (Int32.toNatClampNeg (nI (24 * k + j)))) else (((V 13) (Int32.toNatClampNeg (nI (24 * k + j)))) + ((V 14) (Int32.toNatClampNeg (nI (24 * k + j)))))) else (1000000 : Int32))] h Q := by
                refine x_istore dX6_fit_154 (by decide) rfl ?_
                refine x_iload dX6_fit_156 rfl ?_
                refine x_iload_n dX6_fit_158 rfl ?_
                have J168 : xV G l mX6_fit (d + 2) 0 0 0 0 168 [.ref (A 0), .int ax, .int lo, .int hi, .int (nI k), .int (nI (24 * k + j)), .int (if (-1000000 : Int32) ≤ (if ax = 0 then ((V 12) (Int32.toNatClampNeg (nI (24 * k + j)))) else (((V 13) (Int32.toNatClampNeg (nI (24 * k + j)))) - ((V 14) (Int32.toNatClampNeg (nI (24 * k + j)))))) then (if ax = 0 then ((V 12) (Int32.toNatClampNeg (nI (24 * k + j)))) else (((V 13) (Int32.toNatClampNeg (nI (24 * k + j)))) - ((V 14) (Int32.toNatClampNeg (nI (24 * k + j)))))) else (-1000000 : Int32)), .int (if (if ax = 0 then ((V 12) (Int32.toNatClampNeg (nI (24 * k + j)))) else (((V 13) (Int32.toNatClampNeg (nI (24 * k + j)))) + ((V 14) (Int32.toNatClampNeg (nI (24 * k + j)))))) ≤ (1000000 : Int32) then (if ax = 0 then ((V 12) (Int32.toNatClampNeg (nI (24 * k + j)))) else (((V 13) (Int32.toNatClampNeg (nI (24 * k + j)))) + ((V 14) (Int32.toNatClampNeg (nI (24 * k + j)))))) else (1000000 : Int32))] [.int (if lo ≤ (if (-1000000 : Int32) ≤ (if ax = 0 then ((V 12) (Int32.toNatClampNeg (nI (24 * k + j)))) else (((V 13) (Int32.toNatClampNeg (nI (24 * k + j)))) - ((V 14) (Int32.toNatClampNeg (nI (24 * k + j)))))) then (if ax = 0 then ((V 12) (Int32.toNatClampNeg (nI (24 * k + j)))) else (((V 13) (Int32.toNatClampNeg (nI (24 * k + j)))) - ((V 14) (Int32.toNatClampNeg (nI (24 * k + j)))))) else (-1000000 : Int32)) then lo else (if (-1000000 : Int32) ≤ (if ax = 0 then ((V 12) (Int32.toNatClampNeg (nI (24 * k + j)))) else (((V 13) (Int32.toNatClampNeg (nI (24 * k + j)))) - ((V 14) (Int32.toNatClampNeg (nI (24 * k + j)))))) then (if ax = 0 then ((V 12) (Int32.toNatClampNeg (nI (24 * k + j)))) else (((V 13) (Int32.toNatClampNeg (nI (24 * k + j)))) - ((V 14) (Int32.toNatClampNeg (nI (24 * k + j)))))) else (-1000000 : Int32)))] h Q := by
                  refine x_istore_n dX6_fit_168 (by decide) rfl ?_
                  refine x_iload dX6_fit_169 rfl ?_
                  refine x_iload_n dX6_fit_171 rfl ?_
                  have J181 : xV G l mX6_fit (d + 2) 0 0 0 0 181 [.ref (A 0), .int ax, .int (if lo ≤ (if (-1000000 : Int32) ≤ (if ax = 0 then ((V 12) (Int32.toNatClampNeg (nI (24 * k + j)))) else (((V 13) (Int32.toNatClampNeg (nI (24 * k + j)))) - ((V 14) (Int32.toNatClampNeg (nI (24 * k + j)))))) then (if ax = 0 then ((V 12) (Int32.toNatClampNeg (nI (24 * k + j)))) else (((V 13) (Int32.toNatClampNeg (nI (24 * k + j)))) - ((V 14) (Int32.toNatClampNeg (nI (24 * k + j)))))) else (-1000000 : Int32)) then lo else (if (-1000000 : Int32) ≤ (if ax = 0 then ((V 12) (Int32.toNatClampNeg (nI (24 * k + j)))) else (((V 13) (Int32.toNatClampNeg (nI (24 * k + j)))) - ((V 14) (Int32.toNatClampNeg (nI (24 * k + j)))))) then (if ax = 0 then ((V 12) (Int32.toNatClampNeg (nI (24 * k + j)))) else (((V 13) (Int32.toNatClampNeg (nI (24 * k + j)))) - ((V 14) (Int32.toNatClampNeg (nI (24 * k + j)))))) else (-1000000 : Int32))), .int hi, .int (nI k), .int (nI (24 * k + j)), .int (if (-1000000 : Int32) ≤ (if ax = 0 then ((V 12) (Int32.toNatClampNeg (nI (24 * k + j)))) else (((V 13) (Int32.toNatClampNeg (nI (24 * k + j)))) - ((V 14) (Int32.toNatClampNeg (nI (24 * k + j)))))) then (if ax = 0 then ((V 12) (Int32.toNatClampNeg (nI (24 * k + j)))) else (((V 13) (Int32.toNatClampNeg (nI (24 * k + j)))) - ((V 14) (Int32.toNatClampNeg (nI (24 * k + j)))))) else (-1000000 : Int32)), .int (if (if ax = 0 then ((V 12) (Int32.toNatClampNeg (nI (24 * k + j)))) else (((V 13) (Int32.toNatClampNeg (nI (24 * k + j)))) + ((V 14) (Int32.toNatClampNeg (nI (24 * k + j)))))) ≤ (1000000 : Int32) then (if ax = 0 then ((V 12) (Int32.toNatClampNeg (nI (24 * k + j)))) else (((V 13) (Int32.toNatClampNeg (nI (24 * k + j)))) + ((V 14) (Int32.toNatClampNeg (nI (24 * k + j)))))) else (1000000 : Int32))] [.int (if (if (if ax = 0 then ((V 12) (Int32.toNatClampNeg (nI (24 * k + j)))) else (((V 13) (Int32.toNatClampNeg (nI (24 * k + j)))) + ((V 14) (Int32.toNatClampNeg (nI (24 * k + j)))))) ≤ (1000000 : Int32) then (if ax = 0 then ((V 12) (Int32.toNatClampNeg (nI (24 * k + j)))) else (((V 13) (Int32.toNatClampNeg (nI (24 * k + j)))) + ((V 14) (Int32.toNatClampNeg (nI (24 * k + j)))))) else (1000000 : Int32)) ≤ hi then hi else (if (if ax = 0 then ((V 12) (Int32.toNatClampNeg (nI (24 * k + j)))) else (((V 13) (Int32.toNatClampNeg (nI (24 * k + j)))) + ((V 14) (Int32.toNatClampNeg (nI (24 * k + j)))))) ≤ (1000000 : Int32) then (if ax = 0 then ((V 12) (Int32.toNatClampNeg (nI (24 * k + j)))) else (((V 13) (Int32.toNatClampNeg (nI (24 * k + j)))) + ((V 14) (Int32.toNatClampNeg (nI (24 * k + j)))))) else (1000000 : Int32)))] h Q := by
                    refine x_istore_n dX6_fit_181 (by decide) rfl ?_
                    refine x_iinc (v := 1) dX6_fit_182 rfl (by decide) (by decide) rfl ?_
                    refine x_goto (tgt := 34) dX6_fit_185 (by decide) ?_
                    rw [LX6_fitI, if_pos (by rw [nI_clamp (by omega)] at hc_59; exact hc_59)] at hk
                    refine xV.sub (L' := [.ref (A 0), .int ax, .int (if lo ≤ (if (-1000000 : Int32) ≤ (if ax = 0 then ((V 12) (Int32.toNatClampNeg (nI (24 * k + j)))) else (((V 13) (Int32.toNatClampNeg (nI (24 * k + j)))) - ((V 14) (Int32.toNatClampNeg (nI (24 * k + j)))))) then (if ax = 0 then ((V 12) (Int32.toNatClampNeg (nI (24 * k + j)))) else (((V 13) (Int32.toNatClampNeg (nI (24 * k + j)))) - ((V 14) (Int32.toNatClampNeg (nI (24 * k + j)))))) else (-1000000 : Int32)) then lo else (if (-1000000 : Int32) ≤ (if ax = 0 then ((V 12) (Int32.toNatClampNeg (nI (24 * k + j)))) else (((V 13) (Int32.toNatClampNeg (nI (24 * k + j)))) - ((V 14) (Int32.toNatClampNeg (nI (24 * k + j)))))) then (if ax = 0 then ((V 12) (Int32.toNatClampNeg (nI (24 * k + j)))) else (((V 13) (Int32.toNatClampNeg (nI (24 * k + j)))) - ((V 14) (Int32.toNatClampNeg (nI (24 * k + j)))))) else (-1000000 : Int32))), .int (if (if (if ax = 0 then ((V 12) (Int32.toNatClampNeg (nI (24 * k + j)))) else (((V 13) (Int32.toNatClampNeg (nI (24 * k + j)))) + ((V 14) (Int32.toNatClampNeg (nI (24 * k + j)))))) ≤ (1000000 : Int32) then (if ax = 0 then ((V 12) (Int32.toNatClampNeg (nI (24 * k + j)))) else (((V 13) (Int32.toNatClampNeg (nI (24 * k + j)))) + ((V 14) (Int32.toNatClampNeg (nI (24 * k + j)))))) else (1000000 : Int32)) ≤ hi then hi else (if (if ax = 0 then ((V 12) (Int32.toNatClampNeg (nI (24 * k + j)))) else (((V 13) (Int32.toNatClampNeg (nI (24 * k + j)))) + ((V 14) (Int32.toNatClampNeg (nI (24 * k + j)))))) ≤ (1000000 : Int32) then (if ax = 0 then ((V 12) (Int32.toNatClampNeg (nI (24 * k + j)))) else (((V 13) (Int32.toNatClampNeg (nI (24 * k + j)))) + ((V 14) (Int32.toNatClampNeg (nI (24 * k + j)))))) else (1000000 : Int32))), .int (nI k), .int (nI (24 * k + (j + 1))), xU, xU]) ⟨Or.inr rfl, Or.inr rfl, Or.inr rfl, Or.inr rfl, Or.inr rfl, Or.inr (congrArg Value.int (by rw [nI_1]; rfl)), Or.inl rfl, Or.inl rfl, trivial⟩ (ih (j + 1) _ _ (by omega) (by first | exact hk | (rw [ep]; exact hk)))
                  refine x_icmp_le (tgt := 180) dX6_fit_172 (by decide) (fun hc_172 => ?_) (fun hc_172 => ?_)
                  · refine x_iload_n dX6_fit_180 rfl ?_
                    exact x_ls rfl (by first | rfl | (rw [if_pos hc_172] <;> rfl) | (simp only [if_pos hc_172]; rfl) | (simp only [if_pos hc_172])) J181
                  · refine x_iload dX6_fit_175 rfl ?_
                    refine x_goto (tgt := 181) dX6_fit_177 (by decide) ?_
                    exact x_ls rfl (by first | rfl | (rw [if_neg hc_172] <;> rfl) | (simp only [if_neg hc_172]; rfl) | (simp only [if_neg hc_172])) J181
                refine x_icmp_ge (tgt := 167) dX6_fit_159 (by decide) (fun hc_159 => ?_) (fun hc_159 => ?_)
                · refine x_iload_n dX6_fit_167 rfl ?_
                  exact x_ls rfl (by first | rfl | (rw [if_pos hc_159] <;> rfl) | (simp only [if_pos hc_159]; rfl) | (simp only [if_pos hc_159])) J168
                · refine x_iload dX6_fit_162 rfl ?_
                  refine x_goto (tgt := 168) dX6_fit_164 (by decide) ?_
                  exact x_ls rfl (by first | rfl | (rw [if_neg hc_159] <;> rfl) | (simp only [if_neg hc_159]; rfl) | (simp only [if_neg hc_159])) J168
              refine x_icmp_le (tgt := 152) dX6_fit_144 (by decide) (fun hc_144 => ?_) (fun hc_144 => ?_)
              · refine x_iload dX6_fit_152 rfl ?_
                exact x_ls rfl (by first | rfl | (rw [if_pos hc_144] <;> rfl) | (simp only [if_pos hc_144]; rfl) | (simp only [if_pos hc_144])) J154
              · refine x_ldc (v := 1000000) dX6_fit_147 (by decide +kernel) ?_
                refine x_goto (tgt := 154) dX6_fit_149 (by decide) ?_
                exact x_ls rfl (by first | rfl | (rw [if_neg hc_144] <;> rfl) | (simp only [if_neg hc_144]; rfl) | (simp only [if_neg hc_144])) J154
            refine x_icmp_ge (tgt := 136) dX6_fit_128 (by decide) (fun hc_128 => ?_) (fun hc_128 => ?_)
            · refine x_iload dX6_fit_136 rfl ?_
              exact x_ls rfl (by first | rfl | (rw [if_pos hc_128] <;> rfl) | (simp only [if_pos hc_128]; rfl) | (simp only [if_pos hc_128])) J138
            · refine x_ldc (v := (-1000000)) dX6_fit_131 (by decide +kernel) ?_
              refine x_goto (tgt := 138) dX6_fit_133 (by decide) ?_
              exact x_ls rfl (by first | rfl | (rw [if_neg hc_128] <;> rfl) | (simp only [if_neg hc_128]; rfl) | (simp only [if_neg hc_128])) J138
          refine x_if_ne (tgt := 107) dX6_fit_94 (by decide) (fun hc_94 => ?_) (fun hc_94 => ?_)
          · refine x_aload_n dX6_fit_107 rfl ?_
            refine x_get 13 dX6_fit_108 hM.1 rfl (by decide) (by decide +kernel) rfl ?_
            refine x_iload dX6_fit_111 rfl ?_
            refine x_iald dX6_fit_113 (hM.r 13 (by decide) (by decide)) (vp_in_nI (N := 144) (by omega) (by decide)) ?_
            refine x_aload_n dX6_fit_114 rfl ?_
            refine x_get 14 dX6_fit_115 hM.1 rfl (by decide) (by decide +kernel) rfl ?_
            refine x_iload dX6_fit_118 rfl ?_
            refine x_iald dX6_fit_120 (hM.r 14 (by decide) (by decide)) (vp_in_nI (N := 144) (by omega) (by decide)) ?_
            refine x_iadd dX6_fit_121 ?_
            exact x_ls rfl (by first | rfl | (rw [if_neg hc_94] <;> rfl) | (simp only [if_neg hc_94]; rfl) | (simp only [if_neg hc_94])) J122
          · refine x_aload_n dX6_fit_97 rfl ?_
            refine x_get 12 dX6_fit_98 hM.1 rfl (by decide) (by decide +kernel) rfl ?_
            refine x_iload dX6_fit_101 rfl ?_
            refine x_iald dX6_fit_103 (hM.r 12 (by decide) (by decide)) (vp_in_nI (N := 144) (by omega) (by decide)) ?_
            refine x_goto (tgt := 122) dX6_fit_104 (by decide) ?_
            exact x_ls rfl (by first | rfl | (rw [if_pos hc_94] <;> rfl) | (simp only [if_pos hc_94]; rfl) | (simp only [if_pos hc_94])) J122
        refine x_if_ne (tgt := 76) dX6_fit_63 (by decide) (fun hc_63 => ?_) (fun hc_63 => ?_)
        · refine x_aload_n dX6_fit_76 rfl ?_
          refine x_get 13 dX6_fit_77 hM.1 rfl (by decide) (by decide +kernel) rfl ?_
          refine x_iload dX6_fit_80 rfl ?_
          refine x_iald dX6_fit_82 (hM.r 13 (by decide) (by decide)) (vp_in_nI (N := 144) (by omega) (by decide)) ?_
          refine x_aload_n dX6_fit_83 rfl ?_
          refine x_get 14 dX6_fit_84 hM.1 rfl (by decide) (by decide +kernel) rfl ?_
          refine x_iload dX6_fit_87 rfl ?_
          refine x_iald dX6_fit_89 (hM.r 14 (by decide) (by decide)) (vp_in_nI (N := 144) (by omega) (by decide)) ?_
          refine x_isub dX6_fit_90 ?_
          exact x_ls rfl (by first | rfl | (rw [if_neg hc_63] <;> rfl) | (simp only [if_neg hc_63]; rfl) | (simp only [if_neg hc_63])) J91
        · refine x_aload_n dX6_fit_66 rfl ?_
          refine x_get 12 dX6_fit_67 hM.1 rfl (by decide) (by decide +kernel) rfl ?_
          refine x_iload dX6_fit_70 rfl ?_
          refine x_iald dX6_fit_72 (hM.r 12 (by decide) (by decide)) (vp_in_nI (N := 144) (by omega) (by decide)) ?_
          refine x_goto (tgt := 91) dX6_fit_73 (by decide) ?_
          exact x_ls rfl (by first | rfl | (rw [if_pos hc_63] <;> rfl) | (simp only [if_pos hc_63]; rfl) | (simp only [if_pos hc_63])) J91
  have outer : xV G l mX6_fit (d + 2) 0 0 0 0 194 [.ref (A 0), .int ax, .int ((FX6_fitR I V ax).1), .int ((FX6_fitR I V ax).2), xU, xU, xU, xU] [] h Q → ∀ (n9 k : Nat) (lo hi : Int32), k + n9 = (I.2.2.1).toNatClampNeg → LX6_fitO V ax n9 k lo hi = FX6_fitR I V ax → xV G l mX6_fit (d + 2) 0 0 0 0 18 [.ref (A 0), .int ax, .int lo, .int hi, .int (nI k), xU, xU, xU] [] h Q := by
    clear hQ
    intro hk n9
    induction n9 with
    | zero =>
      intro k lo hi hj hf
      refine x_iload dX6_fit_18 rfl ?_
      refine x_aload_n dX6_fit_20 rfl ?_
      refine x_get 7 dX6_fit_21 hM.1 rfl (by decide) (by decide +kernel) rfl ?_
      refine x_icmp_ge (tgt := 194) dX6_fit_24 (by decide) (fun _ => ?_) (fun z9 => absurd (xge_b (by omega) (by omega)) z9)
      rw [LX6_fitO] at hf
      refine xV.sub (L' := [.ref (A 0), .int ax, .int ((FX6_fitR I V ax).1), .int ((FX6_fitR I V ax).2), xU, xU, xU, xU]) ⟨Or.inr rfl, Or.inr rfl, Or.inr (by rw [← hf]), Or.inr (by rw [← hf]), Or.inl rfl, Or.inl rfl, Or.inl rfl, Or.inl rfl, trivial⟩ hk
    | succ n9 ih =>
      intro k lo hi hj hf
      refine x_iload dX6_fit_18 rfl ?_
      refine x_aload_n dX6_fit_20 rfl ?_
      refine x_get 7 dX6_fit_21 hM.1 rfl (by decide) (by decide +kernel) rfl ?_
      refine x_icmp_ge (tgt := 194) dX6_fit_24 (by decide) (fun z9 => absurd z9 (xlt_b (by omega))) (fun _ => ?_)
      refine x_bipush (v := 24) dX6_fit_27 (by decide) ?_
      refine x_iload dX6_fit_29 rfl ?_
      refine x_imul dX6_fit_31 ?_
      refine x_istore dX6_fit_32 (by decide) rfl ?_
      rw [LX6_fitO] at hf
      refine xV.sub (L' := [.ref (A 0), .int ax, .int lo, .int hi, .int (nI k), .int (nI (24 * k + 0)), xU, xU]) ⟨Or.inr rfl, Or.inr rfl, Or.inr rfl, Or.inr rfl, Or.inr rfl, Or.inr (congrArg Value.int (by rw [show (24 : Int32) = nI 24 from rfl, pk_mul]; rfl)), Or.inl rfl, Or.inl rfl, trivial⟩ (inner k (by omega) (V 11 k).toNatClampNeg 0 lo hi (by omega) ?_)
      refine x_iinc (v := 1) dX6_fit_188 rfl (by decide) (by decide) rfl ?_
      refine x_goto (tgt := 18) dX6_fit_191 (by decide) ?_
      refine xV.sub (L' := [.ref (A 0), .int ax, .int (LX6_fitI V ax k (V 11 k).toNatClampNeg 0 lo hi).1, .int (LX6_fitI V ax k (V 11 k).toNatClampNeg 0 lo hi).2, .int (nI (k + 1)), xU, xU, xU]) ⟨Or.inr rfl, Or.inr rfl, Or.inr rfl, Or.inr rfl, Or.inr (congrArg Value.int (nI_1 k)), Or.inl rfl, Or.inl rfl, Or.inl rfl, trivial⟩ (ih (k + 1) _ _ (by omega) hf)
  have rest : vp_in ax 2 → (if (FX6_fitR I V ax).2 < (FX6_fitR I V ax).1 then Q (some (.int (-2 : Int32))) h else (if (FX6_fitR I V ax).1 = (1000000 : Int32) then Q (some (.int (-2 : Int32))) h else (∀ h', xMod G A (I.1, I.2.1, I.2.2.1, I.2.2.2.1, 0) (va_up (va_up (va_up V 3 (upd (V 3) (Int32.toNatClampNeg ax) (FX6_fitR I V ax).1)) 4 (upd (V 4) (Int32.toNatClampNeg ax) (if (FX6_fitR I V ax).1 = (FX6_fitR I V ax).2 then ((FX6_fitR I V ax).2 + (1 : Int32)) else (FX6_fitR I V ax).2))) 2 (upd ((va_up (va_up V 3 (upd (V 3) (Int32.toNatClampNeg ax) (FX6_fitR I V ax).1)) 4 (upd (V 4) (Int32.toNatClampNeg ax) (if (FX6_fitR I V ax).1 = (FX6_fitR I V ax).2 then ((FX6_fitR I V ax).2 + (1 : Int32)) else (FX6_fitR I V ax).2))) 2) (Int32.toNatClampNeg ax) (0 : Int32))) h' → xfM A h h' → Q (some (.int (1 : Int32))) h'))) → xV G l mX6_fit (d + 2) 0 0 0 0 194 [.ref (A 0), .int ax, .int ((FX6_fitR I V ax).1), .int ((FX6_fitR I V ax).2), xU, xU, xU, xU] [] h Q := by
    intro hax hQ9
    clear hQ
    have hQ := hQ9
    clear hQ9
    refine x_iload_n dX6_fit_194 rfl ?_
    refine x_iload_n dX6_fit_195 rfl ?_
    refine x_icmp_gt (tgt := 205) dX6_fit_196 (by decide) (fun hc_196 => ?_) (fun hc_196 => ?_)
    · refine x_bipush (v := (-2)) dX6_fit_205 (by decide) ?_
      rw [if_pos hc_196] at hQ
      exact x_iret dX6_fit_207 rfl hQ
    · refine x_iload_n dX6_fit_199 rfl ?_
      refine x_ldc (v := 1000000) dX6_fit_200 (by decide +kernel) ?_
      refine x_icmp_ne (tgt := 208) dX6_fit_202 (by decide) (fun hc_202 => ?_) (fun hc_202 => ?_)
      · refine x_aload_n dX6_fit_208 rfl ?_
        refine x_get 3 dX6_fit_209 hM.1 rfl (by decide) (by decide +kernel) rfl ?_
        refine x_iload_n dX6_fit_212 rfl ?_
        refine x_iload_n dX6_fit_213 rfl ?_
        refine x_iast dX6_fit_214 (hM.r 3 (by decide) (by decide)) hax ?_
        refine x_aload_n dX6_fit_215 rfl ?_
        refine x_get 4 dX6_fit_216 (xup_k (hA (by decide)) hM.1) rfl (by decide) (by decide +kernel) rfl ?_
        refine x_iload_n dX6_fit_219 rfl ?_
        refine x_iload_n dX6_fit_220 rfl ?_
        refine x_iload_n dX6_fit_221 rfl ?_
        have J232 : xV G l mX6_fit (d + 2) 0 0 0 0 232 [.ref (A 0), .int ax, .int ((FX6_fitR I V ax).1), .int ((FX6_fitR I V ax).2), xU, xU, xU, xU] [.int (if (FX6_fitR I V ax).1 = (FX6_fitR I V ax).2 then ((FX6_fitR I V ax).2 + (1 : Int32)) else (FX6_fitR I V ax).2), .int ax, .ref (A 4)] (xup h (A 3) (xRi G 2 (upd (V 3) (Int32.toNatClampNeg ax) (FX6_fitR I V ax).1))) Q := by
          refine x_iast dX6_fit_232 (xup_k (hA (by decide)) (hM.r 4 (by decide) (by decide))) hax ?_
          refine x_aload_n dX6_fit_233 rfl ?_
          refine x_iload_n dX6_fit_234 rfl ?_
          refine x_iconst (v := 0) dX6_fit_235 (by decide) ?_
          refine x_callV (M' := mX6_becomes) (mc' := 0) (ms' := 0) (As := [.int ax, .int (0 : Int32)]) dX6_fit_236 gX6_fit_X6_becomes okX6_becomes rfl rfl (xup_k (hA (by decide)) (xup_k (hA (by decide)) hM.1)) rfl (Nat.le_of_ble_eq_true rfl) (Nat.le_of_ble_eq_true rfl) (Nat.le_refl _) (Nat.le_refl _) (Nat.le_refl _) ?_
          refine kX6_becomes ((hM.w hA 3 (by decide) (upd (V 3) (Int32.toNatClampNeg ax) (FX6_fitR I V ax).1)).w hA 4 (by decide) (upd (V 4) (Int32.toNatClampNeg ax) (if (FX6_fitR I V ax).1 = (FX6_fitR I V ax).2 then ((FX6_fitR I V ax).2 + (1 : Int32)) else (FX6_fitR I V ax).2))) hA hax (fun h9 hM9 hF9 => ?_)
          show xV _ _ _ _ _ _ _ _ _ _ _ _ _
          refine x_istore dX6_fit_239 (by decide) rfl ?_
          refine x_iconst (v := 1) dX6_fit_241 (by decide) ?_
          rw [if_neg hc_196, if_neg hc_202] at hQ
          exact x_iret dX6_fit_242 rfl (hQ _ hM9 (fun a9 ha => (hF9 a9 ha).trans (by rw [xup_n (ha 4), xup_n (ha 3)])))
        refine x_icmp_ne (tgt := 231) dX6_fit_222 (by decide) (fun hc_222 => ?_) (fun hc_222 => ?_)
        · refine x_iload_n dX6_fit_231 rfl ?_
          exact x_ls rfl (by first | rfl | (rw [if_neg hc_222] <;> rfl) | (simp only [if_neg hc_222]; rfl) | (simp only [if_neg hc_222])) J232
        · refine x_iload_n dX6_fit_225 rfl ?_
          refine x_iconst (v := 1) dX6_fit_226 (by decide) ?_
          refine x_iadd dX6_fit_227 ?_
          refine x_goto (tgt := 232) dX6_fit_228 (by decide) ?_
          exact x_ls rfl (by first | rfl | (rw [if_pos hc_222] <;> rfl) | (simp only [if_pos hc_222]; rfl) | (simp only [if_pos hc_222])) J232
      · refine x_bipush (v := (-2)) dX6_fit_205 (by decide) ?_
        rw [if_neg hc_196, if_pos hc_202] at hQ
        exact x_iret dX6_fit_207 rfl hQ
  refine x_iload_n dX6_fit_0 rfl ?_
  refine x_callS (M' := mX6_isAxis) (mc' := 0) (ms' := 0) (As := [.int ax]) dX6_fit_1 gX6_fit_X6_isAxis okX6_isAxis rfl rfl (Nat.le_of_ble_eq_true rfl) (Nat.le_of_ble_eq_true rfl) (Nat.le_refl _) (Nat.le_refl _) (Nat.le_refl _) ?_
  refine kX6_isAxis  ?_
  show xV _ _ _ _ _ _ _ _ _ _ _ _ _
  refine x_if_ne (tgt := 9) dX6_fit_4 (by decide) (fun hc_4 => ?_) (fun hc_4 => ?_)
  · refine x_ldc (v := 1000001) dX6_fit_9 (by decide +kernel) ?_
    refine x_istore_n dX6_fit_11 (by decide) rfl ?_
    refine x_ldc (v := (-1000001)) dX6_fit_12 (by decide +kernel) ?_
    refine x_istore_n dX6_fit_14 (by decide) rfl ?_
    refine x_iconst (v := 0) dX6_fit_15 (by decide) ?_
    refine x_istore dX6_fit_16 (by decide) rfl ?_
    rw [if_neg hc_4] at hQ
    refine xV.sub (L' := [.ref (A 0), .int ax, .int 1000001, .int (-1000001), .int (nI 0), xU, xU, xU]) ⟨Or.inr rfl, Or.inr rfl, Or.inr rfl, Or.inr rfl, Or.inr (congrArg Value.int nI_0.symm), Or.inl rfl, Or.inl rfl, Or.inl rfl, trivial⟩ (outer (rest (axis_in hc_4) hQ) _ 0 1000001 (-1000001) (by omega) rfl)
  · refine x_iconst (v := (-1)) dX6_fit_7 (by decide) ?_
    rw [if_pos hc_4] at hQ
    exact x_iret dX6_fit_8 rfl hQ
