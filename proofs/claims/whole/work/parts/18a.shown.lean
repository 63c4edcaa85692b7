theorem lat_rng {N : Nat} {I : Nat → xSi} {V : Nat → Nat → Nat → Int32} {q : Int32} : ∀ (n9 j : Nat) (lt ly : Int32), j + n9 = N → (lt = -9 ∨ ∃ k, k < N ∧ lt = nI k) → (LX5_latestIn N I V q n9 j lt ly = -9 ∨ ∃ k, k < N ∧ LX5_latestIn N I V q n9 j lt ly = nI k) := by
  intro n9
  induction n9 with
  | zero => intro j lt ly _ h; rw [LX5_latestIn]; exact h
  | succ n9 ih =>
    intro j lt ly hj h
    rw [LX5_latestIn]
    refine ih _ _ _ (by omega) ?_
    split
    · exact h
    · split
      · exact h
      · exact Or.inr ⟨j, by omega, rfl⟩
theorem latest_rng {N : Nat} {I : Nat → xSi} {V : Nat → Nat → Nat → Int32} {q : Int32} : FX5_latestIn N I V q = -9 ∨ ∃ k, k < N ∧ FX5_latestIn N I V q = nI k := lat_rng N 0 _ _ (by omega) (Or.inl rfl)
def FX5_isCovered (p : xPv) (n : Int32) (U : Nat → Nat → Int32) (N : Nat) (I : Nat → xSi) (V : Nat → Nat → Nat → Int32) (x y : Int32) : Int32 := (if (FX0_covering n U x y) = (-9 : Int32) then (if (FX5_latestIn N I V (FX1_cellAt p x y)) = (-9 : Int32) then (0 : Int32) else (1 : Int32)) else (1 : Int32))
theorem bFX5_isCovered {p : xPv} {n : Int32} {U : Nat → Nat → Int32} {N : Nat} {I : Nat → xSi} {V : Nat → Nat → Nat → Int32} {x y : Int32} : FX5_isCovered p n U N I V x y = 0 ∨ FX5_isCovered p n U N I V x y = 1 := by
  unfold FX5_isCovered
  repeat' (first | with_reducible exact Or.inl rfl | with_reducible exact Or.inr rfl | with_reducible exact bFX5_within | with_reducible exact bFX2_holds | with_reducible exact bFX1_has | with_reducible exact bFX3_has | with_reducible exact bFX3_isPoint | with_reducible exact bFX3_isSeen | with_reducible exact bFX5_isStyle | split)
set_option maxHeartbeats 4000000 in
set_option maxRecDepth 100000 in
theorem kX5_isCovered {G : xG} {l : Launch} {d : Nat} {h : xH} {Q : Option Value → xH → Prop} {sc pg sx sy al ed : Nat} {C : Nat → Nat} {B : Nat → Nat → Nat} {p : xPv} {n : Int32} {U : Nat → Nat → Int32} {md : Int32} {N : Nat} {I : Nat → xSi} {V : Nat → Nat → Nat → Int32} {x y : Int32}  (hK : xCls G sc pg sx sy al ed C B p n U md N I V h) (hn20 : n ≤ 20)  (hQ : Q (some (.int (FX5_isCovered p n U N I V x y))) h) : xV G l mX5_isCovered (d + 4) 0 0 0 0 0 [.ref sc, .int x, .int y] [] h Q := by
  refine x_aload_n dX5_isCovered_0 rfl ?_
  refine x_get 2 dX5_isCovered_1 hK.1 rfl (by decide) (by decide +kernel) rfl ?_
  refine x_iload_n dX5_isCovered_4 rfl ?_
  refine x_iload_n dX5_isCovered_5 rfl ?_
  refine x_callV (M' := mX0_covering) (mc' := 0) (ms' := 0) (As := [.int x, .int y]) dX5_isCovered_6 gX5_isCovered_X0_covering okX0_covering rfl rfl hK.2.2.1.1 rfl (Nat.le_of_ble_eq_true rfl) (Nat.le_of_ble_eq_true rfl) (Nat.le_refl _) (Nat.le_refl _) (Nat.le_refl _) ?_
  refine kX0_covering hK.2.2.1 hn20 ?_
  show xV _ _ _ _ _ _ _ _ _ _ _ _ _
  refine x_bipush (v := (-9)) dX5_isCovered_9 (by decide) ?_
  have J37 : xV G l mX5_isCovered (d + 4) 0 0 0 0 37 [.ref sc, .int x, .int y] [.int (if (FX0_covering n U x y) = (-9 : Int32) then (if (FX5_latestIn N I V (FX1_cellAt p x y)) = (-9 : Int32) then (0 : Int32) else (1 : Int32)) else (1 : Int32))] h Q := by
    exact x_zret dX5_isCovered_37 rfl (nbz (by repeat' (first | with_reducible exact Or.inl rfl | with_reducible exact Or.inr rfl | with_reducible exact bFX5_within | with_reducible exact bFX2_holds | with_reducible exact bFX1_has | with_reducible exact bFX3_has | with_reducible exact bFX3_isPoint | with_reducible exact bFX3_isSeen | with_reducible exact bFX5_isStyle | split))) (xri (by unfold FX5_isCovered; rfl) hQ)
  refine x_icmp_ne (tgt := 32) dX5_isCovered_11 (by decide) (fun hc_11 => ?_) (fun hc_11 => ?_)
  · refine x_iconst (v := 1) dX5_isCovered_32 (by decide) ?_
    refine x_goto (tgt := 37) dX5_isCovered_33 (by decide) ?_
    exact x_ls rfl (by first | rfl | (rw [if_neg hc_11] <;> rfl) | (simp only [if_neg hc_11]; rfl) | (simp only [if_neg hc_11])) J37
  · refine x_aload_n dX5_isCovered_14 rfl ?_
    refine x_aload_n dX5_isCovered_15 rfl ?_
    refine x_get 0 dX5_isCovered_16 hK.1 rfl (by decide) (by decide +kernel) rfl ?_
    refine x_iload_n dX5_isCovered_19 rfl ?_
    refine x_iload_n dX5_isCovered_20 rfl ?_
    refine x_callV (M' := mX1_cellAt) (mc' := 0) (ms' := 0) (As := [.int x, .int y]) dX5_isCovered_21 gX5_isCovered_X1_cellAt okX1_cellAt rfl rfl hK.2.1.1 rfl (Nat.le_of_ble_eq_true rfl) (Nat.le_of_ble_eq_true rfl) (Nat.le_refl _) (Nat.le_refl _) (Nat.le_refl _) ?_
    refine kX1_cellAt hK.2.1 ?_
    show xV _ _ _ _ _ _ _ _ _ _ _ _ _
    refine x_callV (M' := mX5_latestIn) (mc' := 0) (ms' := 0) (As := [.int (FX1_cellAt p x y)]) dX5_isCovered_24 gX5_isCovered_X5_latestIn okX5_latestIn rfl rfl hK.1 rfl (Nat.le_of_ble_eq_true rfl) (Nat.le_of_ble_eq_true rfl) (Nat.le_refl _) (Nat.le_refl _) (Nat.le_refl _) ?_
    refine kX5_latestIn hK ?_
    show xV _ _ _ _ _ _ _ _ _ _ _ _ _
    refine x_bipush (v := (-9)) dX5_isCovered_27 (by decide) ?_
    refine x_icmp_eq (tgt := 36) dX5_isCovered_29 (by decide) (fun hc_29 => ?_) (fun hc_29 => ?_)
    · refine x_iconst (v := 0) dX5_isCovered_36 (by decide) ?_
      exact x_ls rfl (by first | rfl | (rw [if_pos hc_11, if_pos hc_29] <;> rfl) | (simp only [if_pos hc_11, if_pos hc_29]; rfl) | (simp only [if_pos hc_11, if_pos hc_29])) J37
    · refine x_iconst (v := 1) dX5_isCovered_32 (by decide) ?_
      refine x_goto (tgt := 37) dX5_isCovered_33 (by decide) ?_
      exact x_ls rfl (by first | rfl | (rw [if_pos hc_11, if_neg hc_29] <;> rfl) | (simp only [if_pos hc_11, if_neg hc_29]; rfl) | (simp only [if_pos hc_11, if_neg hc_29])) J37
def FX5_signOf (p : xPv) (n : Int32) (U : Nat → Nat → Int32) (N : Nat) (I : Nat → xSi) (V : Nat → Nat → Nat → Int32) (x y : Int32) : Int32 :=
  if FX0_covering n U x y = -9 then (if FX5_latestIn N I V (FX1_cellAt p x y) < 0 then 32 else FX3_signIn (I (FX5_latestIn N I V (FX1_cellAt p x y)).toNatClampNeg) (V (FX5_latestIn N I V (FX1_cellAt p x y)).toNatClampNeg) (FX1_cellAt p x y)) else 8192 + FX0_covering n U x y
set_option maxHeartbeats 4000000 in
set_option maxRecDepth 100000 in
theorem kX5_signOf {G : xG} {l : Launch} {d : Nat} {h : xH} {Q : Option Value → xH → Prop} {sc pg sx sy al ed : Nat} {C : Nat → Nat} {B : Nat → Nat → Nat} {p : xPv} {n : Int32} {U : Nat → Nat → Int32} {md : Int32} {N : Nat} {I : Nat → xSi} {V : Nat → Nat → Nat → Int32} {x y : Int32} (hK : xCls G sc pg sx sy al ed C B p n U md N I V h) (hn20 : n ≤ 20) (hQ : Q (some (.int (FX5_signOf p n U N I V x y))) h) : xV G l mX5_signOf (d + 4) 0 0 0 0 0 [.ref sc, .int x, .int y, xU, xU, xU] [] h Q := by
  refine x_aload_n dX5_signOf_0 rfl ?_
  refine x_get 2 dX5_signOf_1 hK.1 rfl (by decide) (by decide +kernel) rfl ?_
  refine x_iload_n dX5_signOf_4 rfl ?_
  refine x_iload_n dX5_signOf_5 rfl ?_
  refine x_callV (M' := mX0_covering) (mc' := 0) (ms' := 0) (As := [.int x, .int y]) dX5_signOf_6 gX5_signOf_X0_covering okX0_covering rfl rfl hK.2.2.1.1 rfl (Nat.le_of_ble_eq_true rfl) (Nat.le_of_ble_eq_true rfl) (Nat.le_refl _) (Nat.le_refl _) (Nat.le_refl _) ?_
  refine kX0_covering hK.2.2.1 hn20 ?_
  show xV _ _ _ _ _ _ _ _ _ _ _ _ _
  refine x_istore_n dX5_signOf_9 (by decide) rfl ?_
  refine x_iload_n dX5_signOf_10 rfl ?_
  refine x_bipush (v := (-9)) dX5_signOf_11 (by decide) ?_
  refine x_icmp_eq (tgt := 22) dX5_signOf_13 (by decide) (fun hc_13 => ?_) (fun hc_13 => ?_)
  · refine x_aload_n dX5_signOf_22 rfl ?_
    refine x_get 0 dX5_signOf_23 hK.1 rfl (by decide) (by decide +kernel) rfl ?_
    refine x_iload_n dX5_signOf_26 rfl ?_
    refine x_iload_n dX5_signOf_27 rfl ?_
    refine x_callV (M' := mX1_cellAt) (mc' := 0) (ms' := 0) (As := [.int x, .int y]) dX5_signOf_28 gX5_signOf_X1_cellAt okX1_cellAt rfl rfl hK.2.1.1 rfl (Nat.le_of_ble_eq_true rfl) (Nat.le_of_ble_eq_true rfl) (Nat.le_refl _) (Nat.le_refl _) (Nat.le_refl _) ?_
    refine kX1_cellAt hK.2.1 ?_
    show xV _ _ _ _ _ _ _ _ _ _ _ _ _
    refine x_istore dX5_signOf_31 (by decide) rfl ?_
    refine x_aload_n dX5_signOf_33 rfl ?_
    refine x_aload_n dX5_signOf_34 rfl ?_
    refine x_iload dX5_signOf_35 rfl ?_
    refine x_callV (M' := mX5_latestIn) (mc' := 0) (ms' := 0) (As := [.int (FX1_cellAt p x y)]) dX5_signOf_37 gX5_signOf_X5_latestIn okX5_latestIn rfl rfl hK.1 rfl (Nat.le_of_ble_eq_true rfl) (Nat.le_of_ble_eq_true rfl) (Nat.le_refl _) (Nat.le_refl _) (Nat.le_refl _) ?_
    refine kX5_latestIn hK ?_
    show xV _ _ _ _ _ _ _ _ _ _ _ _ _
    refine x_callV (M' := mX5_seriesOf) (mc' := 0) (ms' := 0) (As := [.int (FX5_latestIn N I V (FX1_cellAt p x y))]) dX5_signOf_40 gX5_signOf_X5_seriesOf okX5_seriesOf rfl rfl hK.1 rfl (Nat.le_of_ble_eq_true rfl) (Nat.le_of_ble_eq_true rfl) (Nat.le_refl _) (Nat.le_refl _) (Nat.le_refl _) ?_
    rcases latest_rng (N := N) (I := I) (V := V) (q := FX1_cellAt p x y) with hs | ⟨j, hj, hsj⟩
    · refine kX5_seriesOfN hK (Or.inl (by rw [hs]; decide)) ?_
      show xV _ _ _ _ _ _ _ _ _ _ _ _ _
      refine x_astoreN dX5_signOf_43 (by decide) rfl ?_
      refine x_aloadN dX5_signOf_45 rfl ?_
      refine x_ifnonnullN dX5_signOf_47 ?_
      refine x_bipush (v := 32) dX5_signOf_50 (by decide) ?_
      refine x_goto (tgt := 62) dX5_signOf_52 (by decide) ?_
      exact x_iret dX5_signOf_62 rfl (xri (by unfold FX5_signOf; rw [if_pos hc_13, if_pos (by rw [hs]; decide)]) hQ)
    · refine x_ls (L' := [.ref sc, .int (nI j)]) (by show [_, _] = [_, _]; rw [hsj]) rfl ?_
      refine kX5_seriesOf hK hj ?_
      show xV _ _ _ _ _ _ _ _ _ _ _ _ _
      refine x_astore dX5_signOf_43 (by decide) rfl ?_
      refine x_aload dX5_signOf_45 rfl ?_
      refine x_ifnonnull (tgt := 55) dX5_signOf_47 (by decide) ?_
      refine x_aload dX5_signOf_55 rfl ?_
      refine x_iload dX5_signOf_57 rfl ?_
      refine x_callV (M' := mX3_signIn) (mc' := 0) (ms' := 0) (As := [.int (FX1_cellAt p x y)]) dX5_signOf_59 gX5_signOf_X3_signIn okX3_signIn rfl rfl (hK.2.2.2.2.2.1 j hj).1 rfl (Nat.le_of_ble_eq_true rfl) (Nat.le_of_ble_eq_true rfl) (Nat.le_refl _) (Nat.le_refl _) (Nat.le_refl _) ?_
      refine kX3_signIn (hK.2.2.2.2.2.1 j hj) ?_
      show xV _ _ _ _ _ _ _ _ _ _ _ _ _
      exact x_iret dX5_signOf_62 rfl (xri (by unfold FX5_signOf; rw [if_pos hc_13, hsj, if_neg (nI_pos (by have := hK.2.2.2.2.2.2; omega)), nI_clamp (by have := hK.2.2.2.2.2.2; omega)]) hQ)
  · refine x_sipush (v := 8192) dX5_signOf_16 (by decide) ?_
    refine x_iload_n dX5_signOf_19 rfl ?_
    refine x_iadd dX5_signOf_20 ?_
    exact x_iret dX5_signOf_21 rfl (xri (by unfold FX5_signOf; rw [if_neg hc_13]) hQ)
def LX5_cvI (p : xPv) (n : Int32) (U : Nat → Nat → Int32) (N : Nat) (I : Nat → xSi) (V : Nat → Nat → Nat → Int32) (r : Nat) : Nat → Nat → Int32 → Int32
  | 0, _, ac => ac
  | n9 + 1, j, ac => LX5_cvI p n U N I V r n9 (j + 1) (if FX5_isCovered p n U N I V (nI j) (nI r) = 0 then ac else ac + 1)
def LX5_cvO (p : xPv) (n : Int32) (U : Nat → Nat → Int32) (N : Nat) (I : Nat → xSi) (V : Nat → Nat → Nat → Int32) (a w : Nat) : Nat → Nat → Int32 → Int32
  | 0, _, ac => ac
  | n9 + 1, r, ac => LX5_cvO p n U N I V a w n9 (r + 1) (LX5_cvI p n U N I V r w a ac)
/-- how many cells of w by g, from (a, b) on, show something -/
def FX5_coveredWithin (p : xPv) (n : Int32) (U : Nat → Nat → Int32) (N : Nat) (I : Nat → xSi) (V : Nat → Nat → Nat → Int32) (a b w g : Nat) : Int32 := LX5_cvO p n U N I V a w g b 0
set_option maxHeartbeats 4000000 in
set_option maxRecDepth 100000 in
theorem kX5_coveredWithin {G : xG} {l : Launch} {d : Nat} {h : xH} {Q : Option Value → xH → Prop} {sc pg sx sy al ed : Nat} {C : Nat → Nat} {B : Nat → Nat → Nat} {p : xPv} {n : Int32} {U : Nat → Nat → Int32} {md : Int32} {N : Nat} {I : Nat → xSi} {V : Nat → Nat → Nat → Int32} {a b w g : Nat} (hK : xCls G sc pg sx sy al ed C B p n U md N I V h) (hn20 : n ≤ 20) (haw : a + w < 1000) (hbg : b + g < 1000) (hQ : Q (some (.int (FX5_coveredWithin p n U N I V a b w g))) h) : xV G l mX5_coveredWithin (d + 5) 0 0 0 0 0 [.ref sc, .int (nI a), .int (nI b), .int (nI w), .int (nI g), xU, xU, xU] [] h Q := by
  have inner : ∀ (n9 j : Nat) (ac : Int32) (r : Nat), j + n9 = a + w → xV G l mX5_coveredWithin (d + 5) 0 0 0 0 46 [.ref sc, .int (nI a), .int (nI b), .int (nI w), .int (nI g), .int (LX5_cvI p n U N I V r n9 j ac), .int (nI r), .int (nI (a + w))] [] h Q → xV G l mX5_coveredWithin (d + 5) 0 0 0 0 18 [.ref sc, .int (nI a), .int (nI b), .int (nI w), .int (nI g), .int ac, .int (nI r), .int (nI j)] [] h Q := by
    intro n9 j ac r
    revert j ac
    induction n9 with
    | zero =>
      intro j ac hj hk
      rw [LX5_cvI] at hk
      have hj2 : j = a + w := by omega
      rw [← hj2] at hk
      refine x_iload dX5_coveredWithin_18 rfl ?_
      refine x_iload_n dX5_coveredWithin_20 rfl ?_
      refine x_iload_n dX5_coveredWithin_21 rfl ?_
      refine x_iadd dX5_coveredWithin_22 ?_
      refine x_icmp_ge (tgt := 46) dX5_coveredWithin_23 (by decide) (fun _ => ?_) (fun z9 => absurd (by rw [nI_add]; exact nI_le (by omega) (by omega)) z9)
      exact hk
    | succ n9 ih =>
      intro j ac hj hk
      rw [LX5_cvI] at hk
      refine x_iload dX5_coveredWithin_18 rfl ?_
      refine x_iload_n dX5_coveredWithin_20 rfl ?_
      refine x_iload_n dX5_coveredWithin_21 rfl ?_
      refine x_iadd dX5_coveredWithin_22 ?_
      refine x_icmp_ge (tgt := 46) dX5_coveredWithin_23 (by decide) (fun z9 => absurd z9 (by rw [nI_add]; exact nI_ge (by omega) (by omega))) (fun _ => ?_)
      refine x_aload_n dX5_coveredWithin_26 rfl ?_
      refine x_iload dX5_coveredWithin_27 rfl ?_
      refine x_iload dX5_coveredWithin_29 rfl ?_
      refine x_callV (M' := mX5_isCovered) (mc' := 0) (ms' := 0) (As := [.int (nI j), .int (nI r)]) dX5_coveredWithin_31 gX5_coveredWithin_X5_isCovered okX5_isCovered rfl rfl hK.1 rfl (Nat.le_of_ble_eq_true rfl) (Nat.le_of_ble_eq_true rfl) (Nat.le_refl _) (Nat.le_refl _) (Nat.le_refl _) ?_
      refine kX5_isCovered hK hn20 ?_
      show xV _ _ _ _ _ _ _ _ _ _ _ _ _
      have J40 : xV G l mX5_coveredWithin (d + 5) 0 0 0 0 40 [.ref sc, .int (nI a), .int (nI b), .int (nI w), .int (nI g), .int (if (FX5_isCovered p n U N I V (nI j) (nI r)) = 0 then ac else (ac + 1)), .int (nI r), .int (nI j)] [] h Q := by
        refine x_iinc (v := 1) dX5_coveredWithin_40 rfl (by decide) (by decide) rfl ?_
        refine x_goto (tgt := 18) dX5_coveredWithin_43 (by decide) ?_
        refine xV.sub (L' := [.ref sc, .int (nI a), .int (nI b), .int (nI w), .int (nI g), .int (if (FX5_isCovered p n U N I V (nI j) (nI r)) = 0 then ac else (ac + 1)), .int (nI r), .int (nI (j + 1))]) ⟨Or.inr rfl, Or.inr rfl, Or.inr rfl, Or.inr rfl, Or.inr rfl, Or.inr rfl, Or.inr rfl, Or.inr (congrArg Value.int (nI_1 j)), trivial⟩ (ih (j + 1) (if (FX5_isCovered p n U N I V (nI j) (nI r)) = 0 then ac else (ac + 1)) (by omega) hk)
      refine x_if_eq (tgt := 40) dX5_coveredWithin_34 (by decide) (fun hc_34 => ?_) (fun hc_34 => ?_)
      · exact x_ls (by first | rfl | (rw [if_pos hc_34] <;> rfl) | (simp only [if_pos hc_34]; rfl) | (simp only [if_pos hc_34])) rfl J40
      · refine x_iinc (v := 1) dX5_coveredWithin_37 rfl (by decide) (by decide) rfl ?_
        exact x_ls (by first | rfl | (rw [if_neg hc_34] <;> rfl) | (simp only [if_neg hc_34]; rfl) | (simp only [if_neg hc_34])) rfl J40
  have outer : ∀ (n9 r : Nat) (ac : Int32), r + n9 = b + g → Q (some (.int (LX5_cvO p n U N I V a w n9 r ac))) h → xV G l mX5_coveredWithin (d + 5) 0 0 0 0 6 [.ref sc, .int (nI a), .int (nI b), .int (nI w), .int (nI g), .int ac, .int (nI r), xU] [] h Q := by
    intro n9
    induction n9 with
    | zero =>
      intro r ac hr hQ
      rw [LX5_cvO] at hQ
      refine x_iload dX5_coveredWithin_6 rfl ?_
      refine x_iload_n dX5_coveredWithin_8 rfl ?_
      refine x_iload dX5_coveredWithin_9 rfl ?_
      refine x_iadd dX5_coveredWithin_11 ?_
      refine x_icmp_ge (tgt := 52) dX5_coveredWithin_12 (by decide) (fun _ => ?_) (fun z9 => absurd (by rw [nI_add]; exact nI_le (by omega) (by omega)) z9)
      refine x_iload dX5_coveredWithin_52 rfl ?_
      exact x_iret dX5_coveredWithin_54 rfl hQ
    | succ n9 ih =>
      intro r ac hr hQ
      rw [LX5_cvO] at hQ
      refine x_iload dX5_coveredWithin_6 rfl ?_
      refine x_iload_n dX5_coveredWithin_8 rfl ?_
      refine x_iload dX5_coveredWithin_9 rfl ?_
      refine x_iadd dX5_coveredWithin_11 ?_
      refine x_icmp_ge (tgt := 52) dX5_coveredWithin_12 (by decide) (fun z9 => absurd z9 (by rw [nI_add]; exact nI_ge (by omega) (by omega))) (fun _ => ?_)
      refine x_iload_n dX5_coveredWithin_15 rfl ?_
      refine x_istore dX5_coveredWithin_16 (by decide) rfl ?_
      refine inner w a ac r rfl ?_
      refine x_iinc (v := 1) dX5_coveredWithin_46 rfl (by decide) (by decide) rfl ?_
      refine x_goto (tgt := 6) dX5_coveredWithin_49 (by decide) ?_
      refine xV.sub (L' := [.ref sc, .int (nI a), .int (nI b), .int (nI w), .int (nI g), .int (LX5_cvI p n U N I V r w a ac), .int (nI (r + 1)), xU]) ⟨Or.inr rfl, Or.inr rfl, Or.inr rfl, Or.inr rfl, Or.inr rfl, Or.inr rfl, Or.inr (congrArg Value.int (nI_1 r)), Or.inl rfl, trivial⟩ (ih (r + 1) _ (by omega) hQ)
  refine x_iconst (v := 0) dX5_coveredWithin_0 (by decide) ?_
  refine x_istore dX5_coveredWithin_1 (by decide) rfl ?_
  refine x_iload_n dX5_coveredWithin_3 rfl ?_
  refine x_istore dX5_coveredWithin_4 (by decide) rfl ?_
  refine xV.sub (L' := [.ref sc, .int (nI a), .int (nI b), .int (nI w), .int (nI g), .int 0, .int (nI b), xU]) ⟨Or.inr rfl, Or.inr rfl, Or.inr rfl, Or.inr rfl, Or.inr rfl, Or.inr rfl, Or.inr rfl, Or.inl rfl, trivial⟩ (outer g b 0 rfl hQ)
