/-- the points of one series, from the last on: the one with rs of them ahead, else kf of what is left -/
def LX6_hitI (b s : Int32) (kf : Int32 → Int32) : Nat → Int32 → Int32
  | 0, rs => kf rs
  | p + 1, rs => if ((b >>> ((nI p) &&& 31)) &&& 1) = 1 then (if rs = 0 then ((100 * s) + nI p) else LX6_hitI b s kf p (rs + (-1))) else LX6_hitI b s kf p rs
def LX6_hitO (I : xMi) (V : Nat → Nat → Int32) (q : Int32) : Nat → Int32 → Int32 → Int32
  | 0, _, _ => (-9)
  | n + 1, s, rs => if s < 0 then (-9) else LX6_hitI (V 24 (Int32.toNatClampNeg ((640 * s) + q))) s (fun r => LX6_hitO I V q n (FX6_latest I V q s) r) 24 rs
def FX6_hitT (I : xMi) (V : Nat → Nat → Int32) (q k : Int32) : Int32 := LX6_hitO I V q 80 (FX6_latest I V q (-1)) k
theorem mh_ix {s q : Int32} (hs : vp_in s 6) (hq : vp_in q 640) : vp_in ((640 * s) + q) 3840 := by
  obtain ⟨k, hk, rfl⟩ := vp_in_of hs (by decide)
  obtain ⟨j, hj, rfl⟩ := vp_in_of hq (by decide)
  rw [show (640 : Int32) = nI 640 from rfl, pk_mul, nI_add]
  exact vp_in_nI (by omega) (by decide)
theorem mrk_b {V : Nat → Nat → Int32} {s : Int32} (hly : ∀ k, k < 6 → 0 ≤ (V 9 k).toInt ∧ (V 9 k).toInt ≤ 9) (hs : vp_in s 6) : 0 ≤ mrk V s ∧ mrk V s < 80 := by
  obtain ⟨k, hk, rfl⟩ := vp_in_of hs (by decide)
  unfold mrk
  rw [nI_clamp (by omega), nI_toInt (by omega)]
  have := hly k hk
  omega
set_option maxHeartbeats 4000000 in
set_option maxRecDepth 100000 in
theorem kX6_hitT {G : xG} {l : Launch} {d : Nat} {h : xH} {Q : Option Value → xH → Prop} {A : Nat → Nat} {I : xMi} {V : Nat → Nat → Int32} {x y k q : Int32} (hM : xMod G A I V h) (h6 : I.2.2.1.toInt ≤ 6) (hly : ∀ k, k < 6 → 0 ≤ (V 9 k).toInt ∧ (V 9 k).toInt ≤ 9) (hq : vp_in q 640) (hQ : Q (some (.int (FX6_hitT I V q k))) h) : xV G l mX6_hit (d + 8) 0 0 0 0 41 [.ref (A 0), .int x, .int y, .int k, .int q, .int k, .int (FX6_latest I V q (-1)), xU] [] h Q := by
  have inner : ∀ (s : Int32), vp_in s 6 → ∀ (kf : Int32 → Int32), (∀ rs, Q (some (.int (kf rs))) h → xV G l mX6_hit (d + 8) 0 0 0 0 101 [.ref (A 0), .int x, .int y, .int k, .int q, .int rs, .int s, xU] [] h Q) → ∀ (n9 : Nat) (rs : Int32), n9 ≤ 24 → Q (some (.int (LX6_hitI (V 24 (Int32.toNatClampNeg ((640 * s) + q))) s kf n9 rs))) h → xV G l mX6_hit (d + 8) 0 0 0 0 50 [.ref (A 0), .int x, .int y, .int k, .int q, .int rs, .int s, .int (nI n9 - 1)] [] h Q := by
    clear hQ
    intro s hs kf hk n9
    induction n9 with
    | zero =>
      intro rs hn hQ
      refine x_iload dX6_hit_50 rfl ?_
      refine x_if_lt (tgt := 101) dX6_hit_52 (by decide) (fun _ => ?_) (fun z9 => absurd (by decide) z9)
      rw [LX6_hitI] at hQ
      refine xV.sub (L' := [.ref (A 0), .int x, .int y, .int k, .int q, .int rs, .int s, xU]) ⟨Or.inr rfl, Or.inr rfl, Or.inr rfl, Or.inr rfl, Or.inr rfl, Or.inr rfl, Or.inr rfl, Or.inl rfl, trivial⟩ (hk _ hQ)
    | succ n9 ih =>
      intro rs hn hQ
      refine xV.sub (L' := [.ref (A 0), .int x, .int y, .int k, .int q, .int rs, .int s, .int (nI n9)]) ⟨Or.inr rfl, Or.inr rfl, Or.inr rfl, Or.inr rfl, Or.inr rfl, Or.inr rfl, Or.inr rfl, Or.inr (congrArg Value.int (nI_pred n9)), trivial⟩ ?_
      refine x_iload dX6_hit_50 rfl ?_
      refine x_if_lt (tgt := 101) dX6_hit_52 (by decide) (fun z9 => absurd z9 (nI_pos (by omega))) (fun _ => ?_)
      refine x_aload_n dX6_hit_55 rfl ?_
      refine x_get 24 dX6_hit_56 hM.1 rfl (by decide) (by decide +kernel) rfl ?_
      refine x_sipush (v := 640) dX6_hit_59 (by decide) ?_
      refine x_iload dX6_hit_62 rfl ?_
      refine x_imul dX6_hit_64 ?_
      refine x_iload dX6_hit_65 rfl ?_
      refine x_iadd dX6_hit_67 ?_
      refine x_iald dX6_hit_68 (hM.r 24 (by decide) (by decide)) (mh_ix hs hq) ?_
      refine x_iload dX6_hit_69 rfl ?_
      refine x_ishr dX6_hit_71 ?_
      refine x_iconst (v := 1) dX6_hit_72 (by decide) ?_
      refine x_iand dX6_hit_73 ?_
      refine x_iconst (v := 1) dX6_hit_74 (by decide) ?_
      refine x_icmp_ne (tgt := 95) dX6_hit_75 (by decide) (fun hc_75 => ?_) (fun hc_75 => ?_)
      · refine x_iinc (v := (-1)) dX6_hit_95 rfl (by decide) (by decide) rfl ?_
        refine x_goto (tgt := 50) dX6_hit_98 (by decide) ?_
        rw [LX6_hitI, if_neg hc_75] at hQ
        refine xV.sub (L' := [.ref (A 0), .int x, .int y, .int k, .int q, .int rs, .int s, .int (nI n9 - 1)]) ⟨Or.inr rfl, Or.inr rfl, Or.inr rfl, Or.inr rfl, Or.inr rfl, Or.inr rfl, Or.inr rfl, Or.inr (congrArg Value.int (xneg1 n9)), trivial⟩ (ih _ (by omega) hQ)
      · refine x_iload dX6_hit_78 rfl ?_
        refine x_if_ne (tgt := 92) dX6_hit_80 (by decide) (fun hc_80 => ?_) (fun hc_80 => ?_)
        · refine x_iinc (v := (-1)) dX6_hit_92 rfl (by decide) (by decide) rfl ?_
          refine x_iinc (v := (-1)) dX6_hit_95 rfl (by decide) (by decide) rfl ?_
          refine x_goto (tgt := 50) dX6_hit_98 (by decide) ?_
          rw [LX6_hitI, if_pos hc_75, if_neg hc_80] at hQ
          refine xV.sub (L' := [.ref (A 0), .int x, .int y, .int k, .int q, .int (rs + (-1)), .int s, .int (nI n9 - 1)]) ⟨Or.inr rfl, Or.inr rfl, Or.inr rfl, Or.inr rfl, Or.inr rfl, Or.inr rfl, Or.inr rfl, Or.inr (congrArg Value.int (xneg1 n9)), trivial⟩ (ih _ (by omega) hQ)
        · refine x_bipush (v := 100) dX6_hit_83 (by decide) ?_
          refine x_iload dX6_hit_85 rfl ?_
          refine x_imul dX6_hit_87 ?_
          refine x_iload dX6_hit_88 rfl ?_
          refine x_iadd dX6_hit_90 ?_
          rw [LX6_hitI, if_pos hc_75, if_pos hc_80] at hQ
          exact x_iret dX6_hit_91 rfl hQ
  have outer : ∀ (n9 : Nat) (s rs : Int32), (¬ s < 0 → vp_in s 6 ∧ mrk V s < n9) → Q (some (.int (LX6_hitO I V q n9 s rs))) h → xV G l mX6_hit (d + 8) 0 0 0 0 41 [.ref (A 0), .int x, .int y, .int k, .int q, .int rs, .int s, xU] [] h Q := by
    clear hQ
    intro n9
    induction n9 with
    | zero =>
      intro s rs hsn hQ
      have hs0 : s < 0 := Classical.byContradiction (fun z => by have h1 := hsn z; have h2 := mrk_b hly h1.1; omega)
      refine x_iload dX6_hit_41 rfl ?_
      refine x_if_lt (tgt := 114) dX6_hit_43 (by decide) (fun _ => ?_) (fun z9 => absurd hs0 z9)
      refine x_bipush (v := (-9)) dX6_hit_114 (by decide) ?_
      rw [LX6_hitO] at hQ
      exact x_iret dX6_hit_116 rfl hQ
    | succ n9 ih =>
      intro s rs hsn hQ
      refine x_iload dX6_hit_41 rfl ?_
      refine x_if_lt (tgt := 114) dX6_hit_43 (by decide) (fun hc_43 => ?_) (fun hc_43 => ?_)
      · refine x_bipush (v := (-9)) dX6_hit_114 (by decide) ?_
        rw [LX6_hitO, if_pos hc_43] at hQ
        exact x_iret dX6_hit_116 rfl hQ
      · refine x_bipush (v := 23) dX6_hit_46 (by decide) ?_
        refine x_istore dX6_hit_48 (by decide) rfl ?_
        rw [LX6_hitO, if_neg hc_43] at hQ
        have hs6 := (hsn hc_43).1
        refine xV.sub (L' := [.ref (A 0), .int x, .int y, .int k, .int q, .int rs, .int s, .int (nI 24 - 1)]) ⟨Or.inr rfl, Or.inr rfl, Or.inr rfl, Or.inr rfl, Or.inr rfl, Or.inr rfl, Or.inr rfl, Or.inr (rfl), trivial⟩ (inner s hs6 _ (fun rs hQ => ?_) 24 rs (by omega) hQ)
        refine x_aload_n dX6_hit_101 rfl ?_
        refine x_iload dX6_hit_102 rfl ?_
        refine x_iload dX6_hit_104 rfl ?_
        refine x_callV (M' := mX6_latest) (mc' := 0) (ms' := 0) (As := [.int q, .int s]) dX6_hit_106 gX6_hit_X6_latest okX6_latest rfl rfl hM.1 rfl (Nat.le_of_ble_eq_true rfl) (Nat.le_of_ble_eq_true rfl) (Nat.le_refl _) (Nat.le_refl _) (Nat.le_refl _) ?_
        refine kX6_latest hM h6 hq (fun _ => hs6) ?_
        show xV _ _ _ _ _ _ _ _ _ _ _ _ _
        refine x_istore dX6_hit_109 (by decide) rfl ?_
        refine x_goto (tgt := 41) dX6_hit_111 (by decide) ?_
        refine ih _ rs (fun z => ⟨mlat_in h6 z, ?_⟩) hQ
        have h1 := mrk_lt (mlat_in h6 z) hs6 (mlat_bef hc_43 z)
        have h2 := (hsn hc_43).2
        omega
  exact outer 80 _ k (fun z => ⟨mlat_in h6 z, (mrk_b hly (mlat_in h6 z)).2⟩) hQ
set_option maxHeartbeats 4000000 in
set_option maxRecDepth 100000 in
theorem kX6_hit {G : xG} {l : Launch} {d : Nat} {h : xH} {Q : Option Value → xH → Prop} {A : Nat → Nat} {I : xMi} {V : Nat → Nat → Int32} {x y k : Int32} (hM : xMod G A I V h) (hA : ∀ {i j : Nat}, i ≠ j → A i ≠ A j) (hR : mRdy I V) (hly : ∀ k, k < 6 → 0 ≤ (V 9 k).toInt ∧ (V 9 k).toInt ≤ 9) (hQ : (if (FX6_isCell I V x y) = 0 then Q (some (.int (-1 : Int32))) h else (if 0 ≤ k then (∀ h', xMod G A (mdI I) (drV I V) h' → xfM A h h' → Q (some (.int (FX6_hitT (mdI I) (drV I V) ((y * (mdI I).1) + x) k))) h') else Q (some (.int (-1 : Int32))) h))) : xV G l mX6_hit (d + 8) 0 0 0 0 0 [.ref (A 0), .int x, .int y, .int k, xU, xU, xU, xU] [] h Q := by
  obtain ⟨cn, rn, hcn, hrn, hc40, hr16⟩ := hR.2.2.2.2.2.2
  refine x_aload_n dX6_hit_0 rfl ?_
  refine x_iload_n dX6_hit_1 rfl ?_
  refine x_iload_n dX6_hit_2 rfl ?_
  refine x_callV (M' := mX6_isCell) (mc' := 0) (ms' := 0) (As := [.int x, .int y]) dX6_hit_3 gX6_hit_X6_isCell okX6_isCell rfl rfl hM.1 rfl (Nat.le_of_ble_eq_true rfl) (Nat.le_of_ble_eq_true rfl) (Nat.le_refl _) (Nat.le_refl _) (Nat.le_refl _) ?_
  refine kX6_isCell hM ?_
  show xV _ _ _ _ _ _ _ _ _ _ _ _ _
  refine x_if_eq (tgt := 13) dX6_hit_6 (by decide) (fun hc_6 => ?_) (fun hc_6 => ?_)
  · refine x_iconst (v := (-1)) dX6_hit_13 (by decide) ?_
    rw [if_pos hc_6] at hQ
    exact x_iret dX6_hit_14 rfl hQ
  · refine x_iload_n dX6_hit_9 rfl ?_
    refine x_if_ge (tgt := 15) dX6_hit_10 (by decide) (fun hc_10 => ?_) (fun hc_10 => ?_)
    · refine x_aload_n dX6_hit_15 rfl ?_
      refine x_callV (M' := mX6_draws) (mc' := 0) (ms' := 0) (As := []) dX6_hit_16 gX6_hit_X6_draws okX6_draws rfl rfl hM.1 rfl (Nat.le_of_ble_eq_true rfl) (Nat.le_of_ble_eq_true rfl) (Nat.le_refl _) (Nat.le_refl _) (Nat.le_refl _) ?_
      refine kX6_drawsR hM hA hR (fun h9 hM9 hF9 => ?_)
      have hM0 := hM
      clear hM
      have hM := hM9
      show xV _ _ _ _ _ _ _ _ _ _ _ _ _
      refine x_iload_n dX6_hit_19 rfl ?_
      refine x_aload_n dX6_hit_20 rfl ?_
      refine x_get 0 dX6_hit_21 hM.1 rfl (by decide) (by decide +kernel) rfl ?_
      refine x_imul dX6_hit_24 ?_
      refine x_iload_n dX6_hit_25 rfl ?_
      refine x_iadd dX6_hit_26 ?_
      refine x_istore dX6_hit_27 (by decide) rfl ?_
      refine x_iload_n dX6_hit_29 rfl ?_
      refine x_istore dX6_hit_30 (by decide) rfl ?_
      refine x_aload_n dX6_hit_32 rfl ?_
      refine x_iload dX6_hit_33 rfl ?_
      refine x_iconst (v := (-1)) dX6_hit_35 (by decide) ?_
      refine x_callV (M' := mX6_latest) (mc' := 0) (ms' := 0) (As := [.int ((y * (mdI I).1) + x), .int (-1 : Int32)]) dX6_hit_36 gX6_hit_X6_latest okX6_latest rfl rfl hM.1 rfl (Nat.le_of_ble_eq_true rfl) (Nat.le_of_ble_eq_true rfl) (Nat.le_refl _) (Nat.le_refl _) (Nat.le_refl _) ?_
      refine kX6_latest hM hR.1.2 (mcell_in (I := I) (V := V) hcn hrn hc40 hr16 hc_6) (fun z => absurd (by decide) z) ?_
      show xV _ _ _ _ _ _ _ _ _ _ _ _ _
      refine x_istore dX6_hit_39 (by decide) rfl ?_
      rw [if_neg hc_6, if_pos hc_10] at hQ
      exact kX6_hitT hM hR.1.2 hly (mcell_in (I := I) (V := V) hcn hrn hc40 hr16 hc_6) (hQ h9 hM9 hF9)
    · refine x_iconst (v := (-1)) dX6_hit_13 (by decide) ?_
      rw [if_neg hc_6, if_neg hc_10] at hQ
      exact x_iret dX6_hit_14 rfl hQ
