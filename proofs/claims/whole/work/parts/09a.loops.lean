theorem xlbl_in {n : Int32} {j : Nat} (h : n ≤ 20) (hj : j < n.toNatClampNeg) : vp_in (nI j) 20 := by
  have hb := n.toInt_lt
  rw [Int32.le_iff_toInt_le] at h
  have e20 : (20 : Int32).toInt = 20 := rfl
  unfold Int32.toNatClampNeg at hj
  exact vp_in_nI (by omega) (by decide)
def LX3_points (I : xSi) (V : Nat → Nat → Int32) : Nat → Nat → Int32 → Int32
  | 0, j, ac => ac
  | n9 + 1, j, ac => (LX3_points I V n9 (j + 1) (if (FX3_isPoint I V (nI j)) = 0 then ac else (ac + 1)))
def FX3_points (I : xSi) (V : Nat → Nat → Int32) : Int32 := LX3_points I V (I.2.2.2.1).toNatClampNeg 0 (0 : Int32)
set_option maxHeartbeats 4000000 in
set_option maxRecDepth 100000 in
theorem kX3_points {G : xG} {l : Launch} {d : Nat} {h : xH} {Q : Option Value → xH → Prop} {pg : Nat} {B : Nat → Nat} {I : xSi} {V : Nat → Nat → Int32} (hS : xSer G B pg I V h) (hz : I.2.2.2.1 ≤ 24)  (hQ : Q (some (.int (FX3_points I V))) h) : xV G l mX3_points (d + 2) 0 0 0 0 0 [.ref (B 0), xU, xU] [] h Q := by
  have hN31 : (I.2.2.2.1).toNatClampNeg < 2 ^ 31 := xclamp_lt _
  have loop : ∀ (n9 j : Nat) (ac : Int32), j + n9 = (I.2.2.2.1).toNatClampNeg → Q (some (.int (LX3_points I V n9 j ac))) h → xV G l mX3_points (d + 2) 0 0 0 0 4 [.ref (B 0), .int ac, .int (nI j)] [] h Q := by
    intro n9
    induction n9 with
    | zero =>
      intro j ac hj hQ
      rw [LX3_points] at hQ
      refine x_iload_n dX3_points_4 rfl ?_
      refine x_aload_n dX3_points_5 rfl ?_
      refine x_get 3 dX3_points_6 hS.1 rfl (by decide) (by decide +kernel) rfl ?_
      refine x_icmp_ge (tgt := 29) dX3_points_9 (by decide) (fun _ => ?_) (fun z9 => absurd (xge_b (by omega) (by omega)) z9)
      refine x_iload_n dX3_points_29 rfl ?_
      exact x_iret dX3_points_30 rfl hQ
    | succ n9 ih =>
      intro j ac hj hQ
      rw [LX3_points] at hQ
      refine x_iload_n dX3_points_4 rfl ?_
      refine x_aload_n dX3_points_5 rfl ?_
      refine x_get 3 dX3_points_6 hS.1 rfl (by decide) (by decide +kernel) rfl ?_
      refine x_icmp_ge (tgt := 29) dX3_points_9 (by decide) (fun z9 => absurd z9 (xlt_b (by omega))) (fun _ => ?_)
      refine x_aload_n dX3_points_12 rfl ?_
      refine x_iload_n dX3_points_13 rfl ?_
      refine x_callV (M' := mX3_isPoint) (mc' := 0) (ms' := 0) (As := [.int (nI j)]) dX3_points_14 gX3_points_X3_isPoint okX3_isPoint rfl rfl hS.1 rfl (Nat.le_of_ble_eq_true rfl) (Nat.le_of_ble_eq_true rfl) (Nat.le_refl _) (Nat.le_refl _) (Nat.le_refl _) ?_
      refine kX3_isPoint hS hz ?_
      show xV _ _ _ _ _ _ _ _ _ _ _ _ _
      have J23 : xV G l mX3_points (d + 2) 0 0 0 0 23 [.ref (B 0), .int (if (FX3_isPoint I V (nI j)) = 0 then ac else (ac + 1)), .int (nI j)] [] h Q := by
        refine x_iinc (v := 1) dX3_points_23 rfl (by decide) (by decide) rfl ?_
        refine x_goto (tgt := 4) dX3_points_26 (by decide) ?_
        refine xV.sub (L' := [.ref (B 0), .int (if (FX3_isPoint I V (nI j)) = 0 then ac else (ac + 1)), .int (nI (j + 1))]) ⟨Or.inr rfl, Or.inr rfl, Or.inr (congrArg Value.int (nI_1 j)), trivial⟩ (ih (j + 1) (if (FX3_isPoint I V (nI j)) = 0 then ac else (ac + 1)) (by omega) hQ)
      refine x_if_eq (tgt := 23) dX3_points_17 (by decide) (fun hc_17 => ?_) (fun hc_17 => ?_)
      · exact x_ls (by first | rfl | (rw [if_pos hc_17] <;> rfl) | (simp only [if_pos hc_17]; rfl) | (simp only [if_pos hc_17])) rfl J23
      · refine x_iinc (v := 1) dX3_points_20 rfl (by decide) (by decide) rfl ?_
        exact x_ls (by first | rfl | (rw [if_neg hc_17] <;> rfl) | (simp only [if_neg hc_17]; rfl) | (simp only [if_neg hc_17])) rfl J23
  refine x_iconst (v := 0) dX3_points_0 (by decide) ?_
  refine x_istore_n dX3_points_1 (by decide) rfl ?_
  refine x_iconst (v := 0) dX3_points_2 (by decide) ?_
  refine x_istore_n dX3_points_3 (by decide) rfl ?_
  refine xV.sub (L' := [.ref (B 0), .int (0 : Int32), .int (nI 0)]) ⟨Or.inr rfl, Or.inr rfl, Or.inr (congrArg Value.int nI_0.symm), trivial⟩ (loop (I.2.2.2.1).toNatClampNeg 0 (0 : Int32) (by omega) hQ)
def LX3_runs (I : xSi) (V : Nat → Nat → Int32) : Nat → Nat → Int32 → Int32
  | 0, j, ac => ac
  | n9 + 1, j, ac => (LX3_runs I V n9 (j + 1) (if (FX3_isPoint I V (nI j)) = 0 then ac else (if (FX3_isPoint I V ((nI j) - (1 : Int32))) = 0 then (ac + 1) else ac)))
def FX3_runs (I : xSi) (V : Nat → Nat → Int32) : Int32 := LX3_runs I V (I.2.2.2.1).toNatClampNeg 0 (0 : Int32)
set_option maxHeartbeats 4000000 in
set_option maxRecDepth 100000 in
theorem kX3_runs {G : xG} {l : Launch} {d : Nat} {h : xH} {Q : Option Value → xH → Prop} {pg : Nat} {B : Nat → Nat} {I : xSi} {V : Nat → Nat → Int32} (hS : xSer G B pg I V h) (hz : I.2.2.2.1 ≤ 24)  (hQ : Q (some (.int (FX3_runs I V))) h) : xV G l mX3_runs (d + 2) 0 0 0 0 0 [.ref (B 0), xU, xU] [] h Q := by
  have hN31 : (I.2.2.2.1).toNatClampNeg < 2 ^ 31 := xclamp_lt _
  have loop : ∀ (n9 j : Nat) (ac : Int32), j + n9 = (I.2.2.2.1).toNatClampNeg → Q (some (.int (LX3_runs I V n9 j ac))) h → xV G l mX3_runs (d + 2) 0 0 0 0 4 [.ref (B 0), .int ac, .int (nI j)] [] h Q := by
    intro n9
    induction n9 with
    | zero =>
      intro j ac hj hQ
      rw [LX3_runs] at hQ
      refine x_iload_n dX3_runs_4 rfl ?_
      refine x_aload_n dX3_runs_5 rfl ?_
      refine x_get 3 dX3_runs_6 hS.1 rfl (by decide) (by decide +kernel) rfl ?_
      refine x_icmp_ge (tgt := 39) dX3_runs_9 (by decide) (fun _ => ?_) (fun z9 => absurd (xge_b (by omega) (by omega)) z9)
      refine x_iload_n dX3_runs_39 rfl ?_
      exact x_iret dX3_runs_40 rfl hQ
    | succ n9 ih =>
      intro j ac hj hQ
      rw [LX3_runs] at hQ
      refine x_iload_n dX3_runs_4 rfl ?_
      refine x_aload_n dX3_runs_5 rfl ?_
      refine x_get 3 dX3_runs_6 hS.1 rfl (by decide) (by decide +kernel) rfl ?_
      refine x_icmp_ge (tgt := 39) dX3_runs_9 (by decide) (fun z9 => absurd z9 (xlt_b (by omega))) (fun _ => ?_)
      refine x_aload_n dX3_runs_12 rfl ?_
      refine x_iload_n dX3_runs_13 rfl ?_
      refine x_callV (M' := mX3_isPoint) (mc' := 0) (ms' := 0) (As := [.int (nI j)]) dX3_runs_14 gX3_runs_X3_isPoint okX3_isPoint rfl rfl hS.1 rfl (Nat.le_of_ble_eq_true rfl) (Nat.le_of_ble_eq_true rfl) (Nat.le_refl _) (Nat.le_refl _) (Nat.le_refl _) ?_
      refine kX3_isPoint hS hz ?_
      show xV _ _ _ _ _ _ _ _ _ _ _ _ _
      have J33 : xV G l mX3_runs (d + 2) 0 0 0 0 33 [.ref (B 0), .int (if (FX3_isPoint I V (nI j)) = 0 then ac else (if (FX3_isPoint I V ((nI j) - (1 : Int32))) = 0 then (ac + 1) else ac)), .int (nI j)] [] h Q := by
        refine x_iinc (v := 1) dX3_runs_33 rfl (by decide) (by decide) rfl ?_
        refine x_goto (tgt := 4) dX3_runs_36 (by decide) ?_
        refine xV.sub (L' := [.ref (B 0), .int (if (FX3_isPoint I V (nI j)) = 0 then ac else (if (FX3_isPoint I V ((nI j) - (1 : Int32))) = 0 then (ac + 1) else ac)), .int (nI (j + 1))]) ⟨Or.inr rfl, Or.inr rfl, Or.inr (congrArg Value.int (nI_1 j)), trivial⟩ (ih (j + 1) (if (FX3_isPoint I V (nI j)) = 0 then ac else (if (FX3_isPoint I V ((nI j) - (1 : Int32))) = 0 then (ac + 1) else ac)) (by omega) hQ)
      refine x_if_eq (tgt := 33) dX3_runs_17 (by decide) (fun hc_17 => ?_) (fun hc_17 => ?_)
      · exact x_ls (by first | rfl | (rw [if_pos hc_17] <;> rfl) | (simp only [if_pos hc_17]; rfl) | (simp only [if_pos hc_17])) rfl J33
      · refine x_aload_n dX3_runs_20 rfl ?_
        refine x_iload_n dX3_runs_21 rfl ?_
        refine x_iconst (v := 1) dX3_runs_22 (by decide) ?_
        refine x_isub dX3_runs_23 ?_
        refine x_callV (M' := mX3_isPoint) (mc' := 0) (ms' := 0) (As := [.int ((nI j) - (1 : Int32))]) dX3_runs_24 gX3_runs_X3_isPoint okX3_isPoint rfl rfl hS.1 rfl (Nat.le_of_ble_eq_true rfl) (Nat.le_of_ble_eq_true rfl) (Nat.le_refl _) (Nat.le_refl _) (Nat.le_refl _) ?_
        refine kX3_isPoint hS hz ?_
        show xV _ _ _ _ _ _ _ _ _ _ _ _ _
        refine x_if_ne (tgt := 33) dX3_runs_27 (by decide) (fun hc_27 => ?_) (fun hc_27 => ?_)
        · exact x_ls (by first | rfl | (rw [if_neg hc_17, if_neg hc_27] <;> rfl) | (simp only [if_neg hc_17, if_neg hc_27]; rfl) | (simp only [if_neg hc_17, if_neg hc_27])) rfl J33
        · refine x_iinc (v := 1) dX3_runs_30 rfl (by decide) (by decide) rfl ?_
          exact x_ls (by first | rfl | (rw [if_neg hc_17, if_pos hc_27] <;> rfl) | (simp only [if_neg hc_17, if_pos hc_27]; rfl) | (simp only [if_neg hc_17, if_pos hc_27])) rfl J33
  refine x_iconst (v := 0) dX3_runs_0 (by decide) ?_
  refine x_istore_n dX3_runs_1 (by decide) rfl ?_
  refine x_iconst (v := 0) dX3_runs_2 (by decide) ?_
  refine x_istore_n dX3_runs_3 (by decide) rfl ?_
  refine xV.sub (L' := [.ref (B 0), .int (0 : Int32), .int (nI 0)]) ⟨Or.inr rfl, Or.inr rfl, Or.inr (congrArg Value.int nI_0.symm), trivial⟩ (loop (I.2.2.2.1).toNatClampNeg 0 (0 : Int32) (by omega) hQ)
def LX3_seenPoints (p : xPv) (I : xSi) (V : Nat → Nat → Int32) : Nat → Nat → Int32 → Int32
  | 0, j, ac => ac
  | n9 + 1, j, ac => (LX3_seenPoints p I V n9 (j + 1) (if (FX3_isSeen p I V (nI j)) = 0 then ac else (ac + 1)))
def FX3_seenPoints (p : xPv) (I : xSi) (V : Nat → Nat → Int32) : Int32 := LX3_seenPoints p I V (I.2.2.2.1).toNatClampNeg 0 (0 : Int32)
set_option maxHeartbeats 4000000 in
set_option maxRecDepth 100000 in
theorem kX3_seenPoints {G : xG} {l : Launch} {d : Nat} {h : xH} {Q : Option Value → xH → Prop} {pg sx sy : Nat} {p : xPv} {B : Nat → Nat} {I : xSi} {V : Nat → Nat → Int32} (hP : xPg pg sx sy p h) (hS : xSer G B pg I V h) (hz : I.2.2.2.1 ≤ 24)  (hQ : Q (some (.int (FX3_seenPoints p I V))) h) : xV G l mX3_seenPoints (d + 3) 0 0 0 0 0 [.ref (B 0), xU, xU] [] h Q := by
  have hN31 : (I.2.2.2.1).toNatClampNeg < 2 ^ 31 := xclamp_lt _
  have loop : ∀ (n9 j : Nat) (ac : Int32), j + n9 = (I.2.2.2.1).toNatClampNeg → Q (some (.int (LX3_seenPoints p I V n9 j ac))) h → xV G l mX3_seenPoints (d + 3) 0 0 0 0 4 [.ref (B 0), .int ac, .int (nI j)] [] h Q := by
    intro n9
    induction n9 with
    | zero =>
      intro j ac hj hQ
      rw [LX3_seenPoints] at hQ
      refine x_iload_n dX3_seenPoints_4 rfl ?_
      refine x_aload_n dX3_seenPoints_5 rfl ?_
      refine x_get 3 dX3_seenPoints_6 hS.1 rfl (by decide) (by decide +kernel) rfl ?_
      refine x_icmp_ge (tgt := 29) dX3_seenPoints_9 (by decide) (fun _ => ?_) (fun z9 => absurd (xge_b (by omega) (by omega)) z9)
      refine x_iload_n dX3_seenPoints_29 rfl ?_
      exact x_iret dX3_seenPoints_30 rfl hQ
    | succ n9 ih =>
      intro j ac hj hQ
      rw [LX3_seenPoints] at hQ
      refine x_iload_n dX3_seenPoints_4 rfl ?_
      refine x_aload_n dX3_seenPoints_5 rfl ?_
      refine x_get 3 dX3_seenPoints_6 hS.1 rfl (by decide) (by decide +kernel) rfl ?_
      refine x_icmp_ge (tgt := 29) dX3_seenPoints_9 (by decide) (fun z9 => absurd z9 (xlt_b (by omega))) (fun _ => ?_)
      refine x_aload_n dX3_seenPoints_12 rfl ?_
      refine x_iload_n dX3_seenPoints_13 rfl ?_
      refine x_callV (M' := mX3_isSeen) (mc' := 0) (ms' := 0) (As := [.int (nI j)]) dX3_seenPoints_14 gX3_seenPoints_X3_isSeen okX3_isSeen rfl rfl hS.1 rfl (Nat.le_of_ble_eq_true rfl) (Nat.le_of_ble_eq_true rfl) (Nat.le_refl _) (Nat.le_refl _) (Nat.le_refl _) ?_
      refine kX3_isSeen hP hS hz ?_
      show xV _ _ _ _ _ _ _ _ _ _ _ _ _
      have J23 : xV G l mX3_seenPoints (d + 3) 0 0 0 0 23 [.ref (B 0), .int (if (FX3_isSeen p I V (nI j)) = 0 then ac else (ac + 1)), .int (nI j)] [] h Q := by
        refine x_iinc (v := 1) dX3_seenPoints_23 rfl (by decide) (by decide) rfl ?_
        refine x_goto (tgt := 4) dX3_seenPoints_26 (by decide) ?_
        refine xV.sub (L' := [.ref (B 0), .int (if (FX3_isSeen p I V (nI j)) = 0 then ac else (ac + 1)), .int (nI (j + 1))]) ⟨Or.inr rfl, Or.inr rfl, Or.inr (congrArg Value.int (nI_1 j)), trivial⟩ (ih (j + 1) (if (FX3_isSeen p I V (nI j)) = 0 then ac else (ac + 1)) (by omega) hQ)
      refine x_if_eq (tgt := 23) dX3_seenPoints_17 (by decide) (fun hc_17 => ?_) (fun hc_17 => ?_)
      · exact x_ls (by first | rfl | (rw [if_pos hc_17] <;> rfl) | (simp only [if_pos hc_17]; rfl) | (simp only [if_pos hc_17])) rfl J23
      · refine x_iinc (v := 1) dX3_seenPoints_20 rfl (by decide) (by decide) rfl ?_
        exact x_ls (by first | rfl | (rw [if_neg hc_17] <;> rfl) | (simp only [if_neg hc_17]; rfl) | (simp only [if_neg hc_17])) rfl J23
  refine x_iconst (v := 0) dX3_seenPoints_0 (by decide) ?_
  refine x_istore_n dX3_seenPoints_1 (by decide) rfl ?_
  refine x_iconst (v := 0) dX3_seenPoints_2 (by decide) ?_
  refine x_istore_n dX3_seenPoints_3 (by decide) rfl ?_
  refine xV.sub (L' := [.ref (B 0), .int (0 : Int32), .int (nI 0)]) ⟨Or.inr rfl, Or.inr rfl, Or.inr (congrArg Value.int nI_0.symm), trivial⟩ (loop (I.2.2.2.1).toNatClampNeg 0 (0 : Int32) (by omega) hQ)
def LX3_lower (I : xSi) (V : Nat → Nat → Int32) (hh : Int32) : Nat → Nat → Int32 → Int32
  | 0, j, ac => ac
  | n9 + 1, j, ac => (LX3_lower I V hh n9 (j + 1) (if (FX3_isPoint I V (nI j)) = 0 then ac else (if hh ≤ ((V 2) (Int32.toNatClampNeg (nI j))) then ac else (ac + 1))))
def FX3_lower (I : xSi) (V : Nat → Nat → Int32) (hh : Int32) : Int32 := LX3_lower I V hh (I.2.2.2.1).toNatClampNeg 0 (0 : Int32)
set_option maxHeartbeats 4000000 in
set_option maxRecDepth 100000 in
theorem kX3_lower {G : xG} {l : Launch} {d : Nat} {h : xH} {Q : Option Value → xH → Prop} {pg : Nat} {B : Nat → Nat} {I : xSi} {V : Nat → Nat → Int32} {hh : Int32} (hS : xSer G B pg I V h) (hz : I.2.2.2.1 ≤ 24)  (hQ : Q (some (.int (FX3_lower I V hh))) h) : xV G l mX3_lower (d + 2) 0 0 0 0 0 [.ref (B 0), .int hh, xU, xU] [] h Q := by
  have hN31 : (I.2.2.2.1).toNatClampNeg < 2 ^ 31 := xclamp_lt _
  have loop : ∀ (n9 j : Nat) (ac : Int32), j + n9 = (I.2.2.2.1).toNatClampNeg → Q (some (.int (LX3_lower I V hh n9 j ac))) h → xV G l mX3_lower (d + 2) 0 0 0 0 4 [.ref (B 0), .int hh, .int ac, .int (nI j)] [] h Q := by
    intro n9
    induction n9 with
    | zero =>
      intro j ac hj hQ
      rw [LX3_lower] at hQ
      refine x_iload_n dX3_lower_4 rfl ?_
      refine x_aload_n dX3_lower_5 rfl ?_
      refine x_get 3 dX3_lower_6 hS.1 rfl (by decide) (by decide +kernel) rfl ?_
      refine x_icmp_ge (tgt := 39) dX3_lower_9 (by decide) (fun _ => ?_) (fun z9 => absurd (xge_b (by omega) (by omega)) z9)
      refine x_iload_n dX3_lower_39 rfl ?_
      exact x_iret dX3_lower_40 rfl hQ
    | succ n9 ih =>
      intro j ac hj hQ
      rw [LX3_lower] at hQ
      refine x_iload_n dX3_lower_4 rfl ?_
      refine x_aload_n dX3_lower_5 rfl ?_
      refine x_get 3 dX3_lower_6 hS.1 rfl (by decide) (by decide +kernel) rfl ?_
      refine x_icmp_ge (tgt := 39) dX3_lower_9 (by decide) (fun z9 => absurd z9 (xlt_b (by omega))) (fun _ => ?_)
      refine x_aload_n dX3_lower_12 rfl ?_
      refine x_iload_n dX3_lower_13 rfl ?_
      refine x_callV (M' := mX3_isPoint) (mc' := 0) (ms' := 0) (As := [.int (nI j)]) dX3_lower_14 gX3_lower_X3_isPoint okX3_isPoint rfl rfl hS.1 rfl (Nat.le_of_ble_eq_true rfl) (Nat.le_of_ble_eq_true rfl) (Nat.le_refl _) (Nat.le_refl _) (Nat.le_refl _) ?_
      refine kX3_isPoint hS hz ?_
      show xV _ _ _ _ _ _ _ _ _ _ _ _ _
      have J33 : xV G l mX3_lower (d + 2) 0 0 0 0 33 [.ref (B 0), .int hh, .int (if (FX3_isPoint I V (nI j)) = 0 then ac else (if hh ≤ ((V 2) (Int32.toNatClampNeg (nI j))) then ac else (ac + 1))), .int (nI j)] [] h Q := by
        refine x_iinc (v := 1) dX3_lower_33 rfl (by decide) (by decide) rfl ?_
        refine x_goto (tgt := 4) dX3_lower_36 (by decide) ?_
        refine xV.sub (L' := [.ref (B 0), .int hh, .int (if (FX3_isPoint I V (nI j)) = 0 then ac else (if hh ≤ ((V 2) (Int32.toNatClampNeg (nI j))) then ac else (ac + 1))), .int (nI (j + 1))]) ⟨Or.inr rfl, Or.inr rfl, Or.inr rfl, Or.inr (congrArg Value.int (nI_1 j)), trivial⟩ (ih (j + 1) (if (FX3_isPoint I V (nI j)) = 0 then ac else (if hh ≤ ((V 2) (Int32.toNatClampNeg (nI j))) then ac else (ac + 1))) (by omega) hQ)
      refine x_if_eq (tgt := 33) dX3_lower_17 (by decide) (fun hc_17 => ?_) (fun hc_17 => ?_)
      · exact x_ls (by first | rfl | (rw [if_pos hc_17] <;> rfl) | (simp only [if_pos hc_17]; rfl) | (simp only [if_pos hc_17])) rfl J33
      · refine x_aload_n dX3_lower_20 rfl ?_
        refine x_get 6 dX3_lower_21 hS.1 rfl (by decide) (by decide +kernel) rfl ?_
        refine x_iload_n dX3_lower_24 rfl ?_
        refine x_iald dX3_lower_25 hS.2.2.1 (xpt_in hz hc_17) ?_
        refine x_iload_n dX3_lower_26 rfl ?_
        refine x_icmp_ge (tgt := 33) dX3_lower_27 (by decide) (fun hc_27 => ?_) (fun hc_27 => ?_)
        · exact x_ls (by first | rfl | (rw [if_neg hc_17, if_pos hc_27] <;> rfl) | (simp only [if_neg hc_17, if_pos hc_27]; rfl) | (simp only [if_neg hc_17, if_pos hc_27])) rfl J33
        · refine x_iinc (v := 1) dX3_lower_30 rfl (by decide) (by decide) rfl ?_
          exact x_ls (by first | rfl | (rw [if_neg hc_17, if_neg hc_27] <;> rfl) | (simp only [if_neg hc_17, if_neg hc_27]; rfl) | (simp only [if_neg hc_17, if_neg hc_27])) rfl J33
  refine x_iconst (v := 0) dX3_lower_0 (by decide) ?_
  refine x_istore_n dX3_lower_1 (by decide) rfl ?_
  refine x_iconst (v := 0) dX3_lower_2 (by decide) ?_
  refine x_istore_n dX3_lower_3 (by decide) rfl ?_
  refine xV.sub (L' := [.ref (B 0), .int hh, .int (0 : Int32), .int (nI 0)]) ⟨Or.inr rfl, Or.inr rfl, Or.inr rfl, Or.inr (congrArg Value.int nI_0.symm), trivial⟩ (loop (I.2.2.2.1).toNatClampNeg 0 (0 : Int32) (by omega) hQ)
def LX3_leastOn (I : xSi) (V : Nat → Nat → Int32) (ax : Int32) : Nat → Nat → Int32 → Int32
  | 0, j, ac => ac
  | n9 + 1, j, ac => (LX3_leastOn I V ax n9 (j + 1) (if (FX3_isPoint I V (nI j)) = 0 then ac else (if (if ax = 0 then ((V 1) (Int32.toNatClampNeg (nI j))) else (if (-1000000 : Int32) < (((V 2) (Int32.toNatClampNeg (nI j))) - ((V 3) (Int32.toNatClampNeg (nI j)))) then (((V 2) (Int32.toNatClampNeg (nI j))) - ((V 3) (Int32.toNatClampNeg (nI j)))) else (-1000000 : Int32))) < ac then (if ax = 0 then ((V 1) (Int32.toNatClampNeg (nI j))) else (if (-1000000 : Int32) < (((V 2) (Int32.toNatClampNeg (nI j))) - ((V 3) (Int32.toNatClampNeg (nI j)))) then (((V 2) (Int32.toNatClampNeg (nI j))) - ((V 3) (Int32.toNatClampNeg (nI j)))) else (-1000000 : Int32))) else ac)))
def FX3_leastOn (I : xSi) (V : Nat → Nat → Int32) (ax : Int32) : Int32 := LX3_leastOn I V ax (I.2.2.2.1).toNatClampNeg 0 (1000001 : Int32)
set_option maxHeartbeats 4000000 in
set_option maxRecDepth 100000 in
theorem kX3_leastOn {G : xG} {l : Launch} {d : Nat} {h : xH} {Q : Option Value → xH → Prop} {pg : Nat} {B : Nat → Nat} {I : xSi} {V : Nat → Nat → Int32} {ax : Int32} (hS : xSer G B pg I V h) (hz : I.2.2.2.1 ≤ 24)  (hQ : Q (some (.int (FX3_leastOn I V ax))) h) : xV G l mX3_leastOn (d + 2) 0 0 0 0 0 [.ref (B 0), .int ax, xU, xU] [] h Q := by
  have hN31 : (I.2.2.2.1).toNatClampNeg < 2 ^ 31 := xclamp_lt _
  have loop : ∀ (n9 j : Nat) (ac : Int32), j + n9 = (I.2.2.2.1).toNatClampNeg → Q (some (.int (LX3_leastOn I V ax n9 j ac))) h → xV G l mX3_leastOn (d + 2) 0 0 0 0 5 [.ref (B 0), .int ax, .int ac, .int (nI j)] [] h Q := by
    intro n9
    induction n9 with
    | zero =>
      intro j ac hj hQ
      rw [LX3_leastOn] at hQ
      refine x_iload_n dX3_leastOn_5 rfl ?_
      refine x_aload_n dX3_leastOn_6 rfl ?_
      refine x_get 3 dX3_leastOn_7 hS.1 rfl (by decide) (by decide +kernel) rfl ?_
      refine x_icmp_ge (tgt := 63) dX3_leastOn_10 (by decide) (fun _ => ?_) (fun z9 => absurd (xge_b (by omega) (by omega)) z9)
      refine x_iload_n dX3_leastOn_63 rfl ?_
      exact x_iret dX3_leastOn_64 rfl hQ
    | succ n9 ih =>
      intro j ac hj hQ
      rw [LX3_leastOn] at hQ
      refine x_iload_n dX3_leastOn_5 rfl ?_
      refine x_aload_n dX3_leastOn_6 rfl ?_
      refine x_get 3 dX3_leastOn_7 hS.1 rfl (by decide) (by decide +kernel) rfl ?_
      refine x_icmp_ge (tgt := 63) dX3_leastOn_10 (by decide) (fun z9 => absurd z9 (xlt_b (by omega))) (fun _ => ?_)
      refine x_aload_n dX3_leastOn_13 rfl ?_
      refine x_iload_n dX3_leastOn_14 rfl ?_
      refine x_callV (M' := mX3_isPoint) (mc' := 0) (ms' := 0) (As := [.int (nI j)]) dX3_leastOn_15 gX3_leastOn_X3_isPoint okX3_isPoint rfl rfl hS.1 rfl (Nat.le_of_ble_eq_true rfl) (Nat.le_of_ble_eq_true rfl) (Nat.le_refl _) (Nat.le_refl _) (Nat.le_refl _) ?_
      refine kX3_isPoint hS hz ?_
      show xV _ _ _ _ _ _ _ _ _ _ _ _ _
      have J57 : xV G l mX3_leastOn (d + 2) 0 0 0 0 57 [.ref (B 0), .int ax, .int (if (FX3_isPoint I V (nI j)) = 0 then ac else (if (if ax = 0 then ((V 1) (Int32.toNatClampNeg (nI j))) else (if (-1000000 : Int32) < (((V 2) (Int32.toNatClampNeg (nI j))) - ((V 3) (Int32.toNatClampNeg (nI j)))) then (((V 2) (Int32.toNatClampNeg (nI j))) - ((V 3) (Int32.toNatClampNeg (nI j)))) else (-1000000 : Int32))) < ac then (if ax = 0 then ((V 1) (Int32.toNatClampNeg (nI j))) else (if (-1000000 : Int32) < (((V 2) (Int32.toNatClampNeg (nI j))) - ((V 3) (Int32.toNatClampNeg (nI j)))) then (((V 2) (Int32.toNatClampNeg (nI j))) - ((V 3) (Int32.toNatClampNeg (nI j)))) else (-1000000 : Int32))) else ac)), .int (nI j)] [] h Q := by
        refine x_iinc (v := 1) dX3_leastOn_57 rfl (by decide) (by decide) rfl ?_
        refine x_goto (tgt := 5) dX3_leastOn_60 (by decide) ?_
        refine xV.sub (L' := [.ref (B 0), .int ax, .int (if (FX3_isPoint I V (nI j)) = 0 then ac else (if (if ax = 0 then ((V 1) (Int32.toNatClampNeg (nI j))) else (if (-1000000 : Int32) < (((V 2) (Int32.toNatClampNeg (nI j))) - ((V 3) (Int32.toNatClampNeg (nI j)))) then (((V 2) (Int32.toNatClampNeg (nI j))) - ((V 3) (Int32.toNatClampNeg (nI j)))) else (-1000000 : Int32))) < ac then (if ax = 0 then ((V 1) (Int32.toNatClampNeg (nI j))) else (if (-1000000 : Int32) < (((V 2) (Int32.toNatClampNeg (nI j))) - ((V 3) (Int32.toNatClampNeg (nI j)))) then (((V 2) (Int32.toNatClampNeg (nI j))) - ((V 3) (Int32.toNatClampNeg (nI j)))) else (-1000000 : Int32))) else ac)), .int (nI (j + 1))]) ⟨Or.inr rfl, Or.inr rfl, Or.inr rfl, Or.inr (congrArg Value.int (nI_1 j)), trivial⟩ (ih (j + 1) (if (FX3_isPoint I V (nI j)) = 0 then ac else (if (if ax = 0 then ((V 1) (Int32.toNatClampNeg (nI j))) else (if (-1000000 : Int32) < (((V 2) (Int32.toNatClampNeg (nI j))) - ((V 3) (Int32.toNatClampNeg (nI j)))) then (((V 2) (Int32.toNatClampNeg (nI j))) - ((V 3) (Int32.toNatClampNeg (nI j)))) else (-1000000 : Int32))) < ac then (if ax = 0 then ((V 1) (Int32.toNatClampNeg (nI j))) else (if (-1000000 : Int32) < (((V 2) (Int32.toNatClampNeg (nI j))) - ((V 3) (Int32.toNatClampNeg (nI j)))) then (((V 2) (Int32.toNatClampNeg (nI j))) - ((V 3) (Int32.toNatClampNeg (nI j)))) else (-1000000 : Int32))) else ac)) (by omega) hQ)
      refine x_if_eq (tgt := 57) dX3_leastOn_18 (by decide) (fun hc_18 => ?_) (fun hc_18 => ?_)
      · exact x_ls (by first | rfl | (rw [if_pos hc_18] <;> rfl) | (simp only [if_pos hc_18]; rfl) | (simp only [if_pos hc_18])) rfl J57
      · refine x_iload_n dX3_leastOn_21 rfl ?_
        refine x_iload_n dX3_leastOn_22 rfl ?_
        have J53 : xV G l mX3_leastOn (d + 2) 0 0 0 0 53 [.ref (B 0), .int ax, .int ac, .int (nI j)] [.int (if ax = 0 then ((V 1) (Int32.toNatClampNeg (nI j))) else (if (-1000000 : Int32) < (((V 2) (Int32.toNatClampNeg (nI j))) - ((V 3) (Int32.toNatClampNeg (nI j)))) then (((V 2) (Int32.toNatClampNeg (nI j))) - ((V 3) (Int32.toNatClampNeg (nI j)))) else (-1000000 : Int32))), .int ac] h Q := by
          refine x_mmin dX3_leastOn_53 (by decide +kernel) (by decide +kernel) (by decide +kernel) (by decide +kernel) (Nat.le_of_ble_eq_true rfl) (by omega) (Nat.le_refl _) (Nat.le_refl _) ?_
          refine x_istore_n dX3_leastOn_56 (by decide) rfl ?_
          exact x_ls (by first | rfl | (rw [if_neg hc_18] <;> rfl) | (simp only [if_neg hc_18]; rfl) | (simp only [if_neg hc_18])) rfl J57
        refine x_if_ne (tgt := 35) dX3_leastOn_23 (by decide) (fun hc_23 => ?_) (fun hc_23 => ?_)
        · refine x_ldc (v := (-1000000)) dX3_leastOn_35 (by decide +kernel) ?_
          refine x_aload_n dX3_leastOn_37 rfl ?_
          refine x_get 6 dX3_leastOn_38 hS.1 rfl (by decide) (by decide +kernel) rfl ?_
          refine x_iload_n dX3_leastOn_41 rfl ?_
          refine x_iald dX3_leastOn_42 hS.2.2.1 (xpt_in hz hc_18) ?_
          refine x_aload_n dX3_leastOn_43 rfl ?_
          refine x_get 7 dX3_leastOn_44 hS.1 rfl (by decide) (by decide +kernel) rfl ?_
          refine x_iload_n dX3_leastOn_47 rfl ?_
          refine x_iald dX3_leastOn_48 hS.2.2.2.1 (xpt_in hz hc_18) ?_
          refine x_isub dX3_leastOn_49 ?_
          refine x_mmax dX3_leastOn_50 (by decide +kernel) (by decide +kernel) (by decide +kernel) (by decide +kernel) (Nat.le_of_ble_eq_true rfl) (by omega) (Nat.le_refl _) (Nat.le_refl _) ?_
          exact x_ls rfl (by first | rfl | (rw [if_neg hc_23] <;> rfl) | (simp only [if_neg hc_23]; rfl) | (simp only [if_neg hc_23])) J53
        · refine x_aload_n dX3_leastOn_26 rfl ?_
          refine x_get 5 dX3_leastOn_27 hS.1 rfl (by decide) (by decide +kernel) rfl ?_
          refine x_iload_n dX3_leastOn_30 rfl ?_
          refine x_iald dX3_leastOn_31 hS.2.1 (xpt_in hz hc_18) ?_
          refine x_goto (tgt := 53) dX3_leastOn_32 (by decide) ?_
          exact x_ls rfl (by first | rfl | (rw [if_pos hc_23] <;> rfl) | (simp only [if_pos hc_23]; rfl) | (simp only [if_pos hc_23])) J53
  refine x_ldc (v := 1000001) dX3_leastOn_0 (by decide +kernel) ?_
  refine x_istore_n dX3_leastOn_2 (by decide) rfl ?_
  refine x_iconst (v := 0) dX3_leastOn_3 (by decide) ?_
  refine x_istore_n dX3_leastOn_4 (by decide) rfl ?_
  refine xV.sub (L' := [.ref (B 0), .int ax, .int (1000001 : Int32), .int (nI 0)]) ⟨Or.inr rfl, Or.inr rfl, Or.inr rfl, Or.inr (congrArg Value.int nI_0.symm), trivial⟩ (loop (I.2.2.2.1).toNatClampNeg 0 (1000001 : Int32) (by omega) hQ)
def LX3_greatestOn (I : xSi) (V : Nat → Nat → Int32) (ax : Int32) : Nat → Nat → Int32 → Int32
  | 0, j, ac => ac
  | n9 + 1, j, ac => (LX3_greatestOn I V ax n9 (j + 1) (if (FX3_isPoint I V (nI j)) = 0 then ac else (if ac < (if ax = 0 then ((V 1) (Int32.toNatClampNeg (nI j))) else (if (((V 2) (Int32.toNatClampNeg (nI j))) + ((V 3) (Int32.toNatClampNeg (nI j)))) < (1000000 : Int32) then (((V 2) (Int32.toNatClampNeg (nI j))) + ((V 3) (Int32.toNatClampNeg (nI j)))) else (1000000 : Int32))) then (if ax = 0 then ((V 1) (Int32.toNatClampNeg (nI j))) else (if (((V 2) (Int32.toNatClampNeg (nI j))) + ((V 3) (Int32.toNatClampNeg (nI j)))) < (1000000 : Int32) then (((V 2) (Int32.toNatClampNeg (nI j))) + ((V 3) (Int32.toNatClampNeg (nI j)))) else (1000000 : Int32))) else ac)))
def FX3_greatestOn (I : xSi) (V : Nat → Nat → Int32) (ax : Int32) : Int32 := LX3_greatestOn I V ax (I.2.2.2.1).toNatClampNeg 0 (-1000001 : Int32)
set_option maxHeartbeats 4000000 in
set_option maxRecDepth 100000 in
theorem kX3_greatestOn {G : xG} {l : Launch} {d : Nat} {h : xH} {Q : Option Value → xH → Prop} {pg : Nat} {B : Nat → Nat} {I : xSi} {V : Nat → Nat → Int32} {ax : Int32} (hS : xSer G B pg I V h) (hz : I.2.2.2.1 ≤ 24)  (hQ : Q (some (.int (FX3_greatestOn I V ax))) h) : xV G l mX3_greatestOn (d + 2) 0 0 0 0 0 [.ref (B 0), .int ax, xU, xU] [] h Q := by
  have hN31 : (I.2.2.2.1).toNatClampNeg < 2 ^ 31 := xclamp_lt _
  have loop : ∀ (n9 j : Nat) (ac : Int32), j + n9 = (I.2.2.2.1).toNatClampNeg → Q (some (.int (LX3_greatestOn I V ax n9 j ac))) h → xV G l mX3_greatestOn (d + 2) 0 0 0 0 5 [.ref (B 0), .int ax, .int ac, .int (nI j)] [] h Q := by
    intro n9
    induction n9 with
    | zero =>
      intro j ac hj hQ
      rw [LX3_greatestOn] at hQ
      refine x_iload_n dX3_greatestOn_5 rfl ?_
      refine x_aload_n dX3_greatestOn_6 rfl ?_
      refine x_get 3 dX3_greatestOn_7 hS.1 rfl (by decide) (by decide +kernel) rfl ?_
      refine x_icmp_ge (tgt := 63) dX3_greatestOn_10 (by decide) (fun _ => ?_) (fun z9 => absurd (xge_b (by omega) (by omega)) z9)
      refine x_iload_n dX3_greatestOn_63 rfl ?_
      exact x_iret dX3_greatestOn_64 rfl hQ
    | succ n9 ih =>
      intro j ac hj hQ
      rw [LX3_greatestOn] at hQ
      refine x_iload_n dX3_greatestOn_5 rfl ?_
      refine x_aload_n dX3_greatestOn_6 rfl ?_
      refine x_get 3 dX3_greatestOn_7 hS.1 rfl (by decide) (by decide +kernel) rfl ?_
      refine x_icmp_ge (tgt := 63) dX3_greatestOn_10 (by decide) (fun z9 => absurd z9 (xlt_b (by omega))) (fun _ => ?_)
      refine x_aload_n dX3_greatestOn_13 rfl ?_
      refine x_iload_n dX3_greatestOn_14 rfl ?_
      refine x_callV (M' := mX3_isPoint) (mc' := 0) (ms' := 0) (As := [.int (nI j)]) dX3_greatestOn_15 gX3_greatestOn_X3_isPoint okX3_isPoint rfl rfl hS.1 rfl (Nat.le_of_ble_eq_true rfl) (Nat.le_of_ble_eq_true rfl) (Nat.le_refl _) (Nat.le_refl _) (Nat.le_refl _) ?_
      refine kX3_isPoint hS hz ?_
      show xV _ _ _ _ _ _ _ _ _ _ _ _ _
      have J57 : xV G l mX3_greatestOn (d + 2) 0 0 0 0 57 [.ref (B 0), .int ax, .int (if (FX3_isPoint I V (nI j)) = 0 then ac else (if ac < (if ax = 0 then ((V 1) (Int32.toNatClampNeg (nI j))) else (if (((V 2) (Int32.toNatClampNeg (nI j))) + ((V 3) (Int32.toNatClampNeg (nI j)))) < (1000000 : Int32) then (((V 2) (Int32.toNatClampNeg (nI j))) + ((V 3) (Int32.toNatClampNeg (nI j)))) else (1000000 : Int32))) then (if ax = 0 then ((V 1) (Int32.toNatClampNeg (nI j))) else (if (((V 2) (Int32.toNatClampNeg (nI j))) + ((V 3) (Int32.toNatClampNeg (nI j)))) < (1000000 : Int32) then (((V 2) (Int32.toNatClampNeg (nI j))) + ((V 3) (Int32.toNatClampNeg (nI j)))) else (1000000 : Int32))) else ac)), .int (nI j)] [] h Q := by
        refine x_iinc (v := 1) dX3_greatestOn_57 rfl (by decide) (by decide) rfl ?_
        refine x_goto (tgt := 5) dX3_greatestOn_60 (by decide) ?_
        refine xV.sub (L' := [.ref (B 0), .int ax, .int (if (FX3_isPoint I V (nI j)) = 0 then ac else (if ac < (if ax = 0 then ((V 1) (Int32.toNatClampNeg (nI j))) else (if (((V 2) (Int32.toNatClampNeg (nI j))) + ((V 3) (Int32.toNatClampNeg (nI j)))) < (1000000 : Int32) then (((V 2) (Int32.toNatClampNeg (nI j))) + ((V 3) (Int32.toNatClampNeg (nI j)))) else (1000000 : Int32))) then (if ax = 0 then ((V 1) (Int32.toNatClampNeg (nI j))) else (if (((V 2) (Int32.toNatClampNeg (nI j))) + ((V 3) (Int32.toNatClampNeg (nI j)))) < (1000000 : Int32) then (((V 2) (Int32.toNatClampNeg (nI j))) + ((V 3) (Int32.toNatClampNeg (nI j)))) else (1000000 : Int32))) else ac)), .int (nI (j + 1))]) ⟨Or.inr rfl, Or.inr rfl, Or.inr rfl, Or.inr (congrArg Value.int (nI_1 j)), trivial⟩ (ih (j + 1) (if (FX3_isPoint I V (nI j)) = 0 then ac else (if ac < (if ax = 0 then ((V 1) (Int32.toNatClampNeg (nI j))) else (if (((V 2) (Int32.toNatClampNeg (nI j))) + ((V 3) (Int32.toNatClampNeg (nI j)))) < (1000000 : Int32) then (((V 2) (Int32.toNatClampNeg (nI j))) + ((V 3) (Int32.toNatClampNeg (nI j)))) else (1000000 : Int32))) then (if ax = 0 then ((V 1) (Int32.toNatClampNeg (nI j))) else (if (((V 2) (Int32.toNatClampNeg (nI j))) + ((V 3) (Int32.toNatClampNeg (nI j)))) < (1000000 : Int32) then (((V 2) (Int32.toNatClampNeg (nI j))) + ((V 3) (Int32.toNatClampNeg (nI j)))) else (1000000 : Int32))) else ac)) (by omega) hQ)
      refine x_if_eq (tgt := 57) dX3_greatestOn_18 (by decide) (fun hc_18 => ?_) (fun hc_18 => ?_)
      · exact x_ls (by first | rfl | (rw [if_pos hc_18] <;> rfl) | (simp only [if_pos hc_18]; rfl) | (simp only [if_pos hc_18])) rfl J57
      · refine x_iload_n dX3_greatestOn_21 rfl ?_
        refine x_iload_n dX3_greatestOn_22 rfl ?_
        have J53 : xV G l mX3_greatestOn (d + 2) 0 0 0 0 53 [.ref (B 0), .int ax, .int ac, .int (nI j)] [.int (if ax = 0 then ((V 1) (Int32.toNatClampNeg (nI j))) else (if (((V 2) (Int32.toNatClampNeg (nI j))) + ((V 3) (Int32.toNatClampNeg (nI j)))) < (1000000 : Int32) then (((V 2) (Int32.toNatClampNeg (nI j))) + ((V 3) (Int32.toNatClampNeg (nI j)))) else (1000000 : Int32))), .int ac] h Q := by
          refine x_mmax dX3_greatestOn_53 (by decide +kernel) (by decide +kernel) (by decide +kernel) (by decide +kernel) (Nat.le_of_ble_eq_true rfl) (by omega) (Nat.le_refl _) (Nat.le_refl _) ?_
          refine x_istore_n dX3_greatestOn_56 (by decide) rfl ?_
          exact x_ls (by first | rfl | (rw [if_neg hc_18] <;> rfl) | (simp only [if_neg hc_18]; rfl) | (simp only [if_neg hc_18])) rfl J57
        refine x_if_ne (tgt := 35) dX3_greatestOn_23 (by decide) (fun hc_23 => ?_) (fun hc_23 => ?_)
        · refine x_ldc (v := 1000000) dX3_greatestOn_35 (by decide +kernel) ?_
          refine x_aload_n dX3_greatestOn_37 rfl ?_
          refine x_get 6 dX3_greatestOn_38 hS.1 rfl (by decide) (by decide +kernel) rfl ?_
          refine x_iload_n dX3_greatestOn_41 rfl ?_
          refine x_iald dX3_greatestOn_42 hS.2.2.1 (xpt_in hz hc_18) ?_
          refine x_aload_n dX3_greatestOn_43 rfl ?_
          refine x_get 7 dX3_greatestOn_44 hS.1 rfl (by decide) (by decide +kernel) rfl ?_
          refine x_iload_n dX3_greatestOn_47 rfl ?_
          refine x_iald dX3_greatestOn_48 hS.2.2.2.1 (xpt_in hz hc_18) ?_
          refine x_iadd dX3_greatestOn_49 ?_
          refine x_mmin dX3_greatestOn_50 (by decide +kernel) (by decide +kernel) (by decide +kernel) (by decide +kernel) (Nat.le_of_ble_eq_true rfl) (by omega) (Nat.le_refl _) (Nat.le_refl _) ?_
          exact x_ls rfl (by first | rfl | (rw [if_neg hc_23] <;> rfl) | (simp only [if_neg hc_23]; rfl) | (simp only [if_neg hc_23])) J53
        · refine x_aload_n dX3_greatestOn_26 rfl ?_
          refine x_get 5 dX3_greatestOn_27 hS.1 rfl (by decide) (by decide +kernel) rfl ?_
          refine x_iload_n dX3_greatestOn_30 rfl ?_
          refine x_iald dX3_greatestOn_31 hS.2.1 (xpt_in hz hc_18) ?_
          refine x_goto (tgt := 53) dX3_greatestOn_32 (by decide) ?_
          exact x_ls rfl (by first | rfl | (rw [if_pos hc_23] <;> rfl) | (simp only [if_pos hc_23]; rfl) | (simp only [if_pos hc_23])) J53
  refine x_ldc (v := (-1000001)) dX3_greatestOn_0 (by decide +kernel) ?_
  refine x_istore_n dX3_greatestOn_2 (by decide) rfl ?_
  refine x_iconst (v := 0) dX3_greatestOn_3 (by decide) ?_
  refine x_istore_n dX3_greatestOn_4 (by decide) rfl ?_
  refine xV.sub (L' := [.ref (B 0), .int ax, .int (-1000001 : Int32), .int (nI 0)]) ⟨Or.inr rfl, Or.inr rfl, Or.inr rfl, Or.inr (congrArg Value.int nI_0.symm), trivial⟩ (loop (I.2.2.2.1).toNatClampNeg 0 (-1000001 : Int32) (by omega) hQ)
def LX3_heightAtRank (I : xSi) (V : Nat → Nat → Int32) (rk : Int32) : Nat → Nat → Int32
  | 0, j => (-2000000000 : Int32)
  | n9 + 1, j => (if (FX3_isPoint I V (nI j)) = 0 then (LX3_heightAtRank I V rk n9 (j + 1) ) else (if rk < (FX3_lower I V ((V 2) (Int32.toNatClampNeg (nI j)))) then (LX3_heightAtRank I V rk n9 (j + 1) ) else (if (FX3_lower I V (((V 2) (Int32.toNatClampNeg (nI j))) + (1 : Int32))) ≤ rk then (LX3_heightAtRank I V rk n9 (j + 1) ) else ((V 2) (Int32.toNatClampNeg (nI j))))))
def FX3_heightAtRank (I : xSi) (V : Nat → Nat → Int32) (rk : Int32) : Int32 := LX3_heightAtRank I V rk (I.2.2.2.1).toNatClampNeg 0 
set_option maxHeartbeats 4000000 in
set_option maxRecDepth 100000 in
theorem kX3_heightAtRank {G : xG} {l : Launch} {d : Nat} {h : xH} {Q : Option Value → xH → Prop} {pg : Nat} {B : Nat → Nat} {I : xSi} {V : Nat → Nat → Int32} {rk : Int32} (hS : xSer G B pg I V h) (hz : I.2.2.2.1 ≤ 24)  (hQ : Q (some (.int (FX3_heightAtRank I V rk))) h) : xV G l mX3_heightAtRank (d + 3) 0 0 0 0 0 [.ref (B 0), .int rk, xU] [] h Q := by
  have hN31 : (I.2.2.2.1).toNatClampNeg < 2 ^ 31 := xclamp_lt _
  have loop : ∀ (n9 j : Nat), j + n9 = (I.2.2.2.1).toNatClampNeg → Q (some (.int (LX3_heightAtRank I V rk n9 j))) h → xV G l mX3_heightAtRank (d + 3) 0 0 0 0 2 [.ref (B 0), .int rk, .int (nI j)] [] h Q := by
    intro n9
    induction n9 with
    | zero =>
      intro j hj hQ
      rw [LX3_heightAtRank] at hQ
      refine x_iload_n dX3_heightAtRank_2 rfl ?_
      refine x_aload_n dX3_heightAtRank_3 rfl ?_
      refine x_get 3 dX3_heightAtRank_4 hS.1 rfl (by decide) (by decide +kernel) rfl ?_
      refine x_icmp_ge (tgt := 61) dX3_heightAtRank_7 (by decide) (fun _ => ?_) (fun z9 => absurd (xge_b (by omega) (by omega)) z9)
      refine x_ldc (v := (-2000000000)) dX3_heightAtRank_61 (by decide +kernel) ?_
      exact x_iret dX3_heightAtRank_63 rfl hQ
    | succ n9 ih =>
      intro j hj hQ
      rw [LX3_heightAtRank] at hQ
      refine x_iload_n dX3_heightAtRank_2 rfl ?_
      refine x_aload_n dX3_heightAtRank_3 rfl ?_
      refine x_get 3 dX3_heightAtRank_4 hS.1 rfl (by decide) (by decide +kernel) rfl ?_
      refine x_icmp_ge (tgt := 61) dX3_heightAtRank_7 (by decide) (fun z9 => absurd z9 (xlt_b (by omega))) (fun _ => ?_)
      refine x_aload_n dX3_heightAtRank_10 rfl ?_
      refine x_iload_n dX3_heightAtRank_11 rfl ?_
      refine x_callV (M' := mX3_isPoint) (mc' := 0) (ms' := 0) (As := [.int (nI j)]) dX3_heightAtRank_12 gX3_heightAtRank_X3_isPoint okX3_isPoint rfl rfl hS.1 rfl (Nat.le_of_ble_eq_true rfl) (Nat.le_of_ble_eq_true rfl) (Nat.le_refl _) (Nat.le_refl _) (Nat.le_refl _) ?_
      refine kX3_isPoint hS hz ?_
      show xV _ _ _ _ _ _ _ _ _ _ _ _ _
      refine x_if_eq (tgt := 55) dX3_heightAtRank_15 (by decide) (fun hc_15 => ?_) (fun hc_15 => ?_)
      · refine x_iinc (v := 1) dX3_heightAtRank_55 rfl (by decide) (by decide) rfl ?_
        refine x_goto (tgt := 2) dX3_heightAtRank_58 (by decide) ?_
        refine xV.sub (L' := [.ref (B 0), .int rk, .int (nI (j + 1))]) ⟨Or.inr rfl, Or.inr rfl, Or.inr (congrArg Value.int (nI_1 j)), trivial⟩ (ih (j + 1)  (by omega) (by rw [if_pos hc_15] at hQ; exact hQ))
      · refine x_aload_n dX3_heightAtRank_18 rfl ?_
        refine x_aload_n dX3_heightAtRank_19 rfl ?_
        refine x_get 6 dX3_heightAtRank_20 hS.1 rfl (by decide) (by decide +kernel) rfl ?_
        refine x_iload_n dX3_heightAtRank_23 rfl ?_
        refine x_iald dX3_heightAtRank_24 hS.2.2.1 (xpt_in hz hc_15) ?_
        refine x_callV (M' := mX3_lower) (mc' := 0) (ms' := 0) (As := [.int ((V 2) (Int32.toNatClampNeg (nI j)))]) dX3_heightAtRank_25 gX3_heightAtRank_X3_lower okX3_lower rfl rfl hS.1 rfl (Nat.le_of_ble_eq_true rfl) (Nat.le_of_ble_eq_true rfl) (Nat.le_refl _) (Nat.le_refl _) (Nat.le_refl _) ?_
        refine kX3_lower hS hz ?_
        show xV _ _ _ _ _ _ _ _ _ _ _ _ _
        refine x_iload_n dX3_heightAtRank_28 rfl ?_
        refine x_icmp_gt (tgt := 55) dX3_heightAtRank_29 (by decide) (fun hc_29 => ?_) (fun hc_29 => ?_)
        · refine x_iinc (v := 1) dX3_heightAtRank_55 rfl (by decide) (by decide) rfl ?_
          refine x_goto (tgt := 2) dX3_heightAtRank_58 (by decide) ?_
          refine xV.sub (L' := [.ref (B 0), .int rk, .int (nI (j + 1))]) ⟨Or.inr rfl, Or.inr rfl, Or.inr (congrArg Value.int (nI_1 j)), trivial⟩ (ih (j + 1)  (by omega) (by rw [if_neg hc_15, if_pos hc_29] at hQ; exact hQ))
        · refine x_iload_n dX3_heightAtRank_32 rfl ?_
          refine x_aload_n dX3_heightAtRank_33 rfl ?_
          refine x_aload_n dX3_heightAtRank_34 rfl ?_
          refine x_get 6 dX3_heightAtRank_35 hS.1 rfl (by decide) (by decide +kernel) rfl ?_
          refine x_iload_n dX3_heightAtRank_38 rfl ?_
          refine x_iald dX3_heightAtRank_39 hS.2.2.1 (xpt_in hz hc_15) ?_
          refine x_iconst (v := 1) dX3_heightAtRank_40 (by decide) ?_
          refine x_iadd dX3_heightAtRank_41 ?_
          refine x_callV (M' := mX3_lower) (mc' := 0) (ms' := 0) (As := [.int (((V 2) (Int32.toNatClampNeg (nI j))) + (1 : Int32))]) dX3_heightAtRank_42 gX3_heightAtRank_X3_lower okX3_lower rfl rfl hS.1 rfl (Nat.le_of_ble_eq_true rfl) (Nat.le_of_ble_eq_true rfl) (Nat.le_refl _) (Nat.le_refl _) (Nat.le_refl _) ?_
          refine kX3_lower hS hz ?_
          show xV _ _ _ _ _ _ _ _ _ _ _ _ _
          refine x_icmp_ge (tgt := 55) dX3_heightAtRank_45 (by decide) (fun hc_45 => ?_) (fun hc_45 => ?_)
          · refine x_iinc (v := 1) dX3_heightAtRank_55 rfl (by decide) (by decide) rfl ?_
            refine x_goto (tgt := 2) dX3_heightAtRank_58 (by decide) ?_
            refine xV.sub (L' := [.ref (B 0), .int rk, .int (nI (j + 1))]) ⟨Or.inr rfl, Or.inr rfl, Or.inr (congrArg Value.int (nI_1 j)), trivial⟩ (ih (j + 1)  (by omega) (by rw [if_neg hc_15, if_neg hc_29, if_pos hc_45] at hQ; exact hQ))
          · refine x_aload_n dX3_heightAtRank_48 rfl ?_
            refine x_get 6 dX3_heightAtRank_49 hS.1 rfl (by decide) (by decide +kernel) rfl ?_
            refine x_iload_n dX3_heightAtRank_52 rfl ?_
            refine x_iald dX3_heightAtRank_53 hS.2.2.1 (xpt_in hz hc_15) ?_
            exact x_iret dX3_heightAtRank_54 rfl (by rw [if_neg hc_15, if_neg hc_29, if_neg hc_45] at hQ; exact hQ)
  refine x_iconst (v := 0) dX3_heightAtRank_0 (by decide) ?_
  refine x_istore_n dX3_heightAtRank_1 (by decide) rfl ?_
  refine xV.sub (L' := [.ref (B 0), .int rk, .int (nI 0)]) ⟨Or.inr rfl, Or.inr rfl, Or.inr (congrArg Value.int nI_0.symm), trivial⟩ (loop (I.2.2.2.1).toNatClampNeg 0  (by omega) hQ)
def LX4_cellsHit (V : Nat → Nat → Int32) : Nat → Nat → Int32 → Int32
  | 0, j, ac => ac
  | n9 + 1, j, ac => (LX4_cellsHit V n9 (j + 1) (if ((V 7) (Int32.toNatClampNeg (nI j))) = 0 then ac else (ac + 1)))
def FX4_cellsHit (V : Nat → Nat → Int32) : Int32 := LX4_cellsHit V 640 0 (0 : Int32)
set_option maxHeartbeats 4000000 in
set_option maxRecDepth 100000 in
theorem kX4_cellsHit {G : xG} {l : Launch} {d : Nat} {h : xH} {Q : Option Value → xH → Prop} {pg : Nat} {B : Nat → Nat} {I : xSi} {V : Nat → Nat → Int32} (hS : xSer G B pg I V h)  (hQ : Q (some (.int (FX4_cellsHit V))) h) : xV G l mX4_cellsHit d 0 0 0 0 0 [.ref (B 5), xU, xU, xU, xU, xU] [] h Q := by
  have hN31 : 640 < 2 ^ 31 := by decide
  have loop : ∀ (n9 j : Nat) (ac : Int32), j + n9 = 640 → Q (some (.int (LX4_cellsHit V n9 j ac))) h → xV G l mX4_cellsHit d 0 0 0 0 13 [.ref (B 5), .int ac, .ref (B 7), .int 640, .int (nI j), xU] [] h Q := by
    intro n9
    induction n9 with
    | zero =>
      intro j ac hj hQ
      rw [LX4_cellsHit] at hQ
      refine x_iload dX4_cellsHit_13 rfl ?_
      refine x_iload_n dX4_cellsHit_15 rfl ?_
      refine x_icmp_ge (tgt := 39) dX4_cellsHit_16 (by decide) (fun _ => ?_) (fun z9 => absurd (nI_le (a := 640) (b := j) (by omega) (by omega)) z9)
      refine x_iload_n dX4_cellsHit_39 rfl ?_
      exact x_iret dX4_cellsHit_40 rfl hQ
    | succ n9 ih =>
      intro j ac hj hQ
      rw [LX4_cellsHit] at hQ
      refine x_iload dX4_cellsHit_13 rfl ?_
      refine x_iload_n dX4_cellsHit_15 rfl ?_
      refine x_icmp_ge (tgt := 39) dX4_cellsHit_16 (by decide) (fun z9 => absurd z9 (nI_ge (a := j) (b := 640) (by omega) (by decide))) (fun _ => ?_)
      refine x_aload_n dX4_cellsHit_19 rfl ?_
      refine x_iload dX4_cellsHit_20 rfl ?_
      refine x_iald dX4_cellsHit_22 hS.2.2.2.2.2.2.2 (vp_in_nI (by omega) (by decide)) ?_
      refine x_istore dX4_cellsHit_23 (by decide) rfl ?_
      refine x_iload dX4_cellsHit_25 rfl ?_
      have J33 : xV G l mX4_cellsHit d 0 0 0 0 33 [.ref (B 5), .int (if ((V 7) (Int32.toNatClampNeg (nI j))) = 0 then ac else (ac + 1)), .ref (B 7), .int 640, .int (nI j), .int ((V 7) (Int32.toNatClampNeg (nI j)))] [] h Q := by
        refine x_iinc (v := 1) dX4_cellsHit_33 rfl (by decide) (by decide) rfl ?_
        refine x_goto (tgt := 13) dX4_cellsHit_36 (by decide) ?_
        refine xV.sub (L' := [.ref (B 5), .int (if ((V 7) (Int32.toNatClampNeg (nI j))) = 0 then ac else (ac + 1)), .ref (B 7), .int 640, .int (nI (j + 1)), xU]) ⟨Or.inr rfl, Or.inr rfl, Or.inr rfl, Or.inr rfl, Or.inr (congrArg Value.int (nI_1 j)), Or.inl rfl, trivial⟩ (ih (j + 1) (if ((V 7) (Int32.toNatClampNeg (nI j))) = 0 then ac else (ac + 1)) (by omega) hQ)
      refine x_if_eq (tgt := 33) dX4_cellsHit_27 (by decide) (fun hc_27 => ?_) (fun hc_27 => ?_)
      · exact x_ls (by first | rfl | (rw [if_pos hc_27] <;> rfl) | (simp only [if_pos hc_27]; rfl) | (simp only [if_pos hc_27])) rfl J33
      · refine x_iinc (v := 1) dX4_cellsHit_30 rfl (by decide) (by decide) rfl ?_
        exact x_ls (by first | rfl | (rw [if_neg hc_27] <;> rfl) | (simp only [if_neg hc_27]; rfl) | (simp only [if_neg hc_27])) rfl J33
  refine x_iconst (v := 0) dX4_cellsHit_0 (by decide) ?_
  refine x_istore_n dX4_cellsHit_1 (by decide) rfl ?_
  refine x_aload_n dX4_cellsHit_2 rfl ?_
  refine x_get 2 dX4_cellsHit_3 hS.2.2.2.2.2.1 rfl (by decide) (by decide +kernel) rfl ?_
  refine x_astore_n dX4_cellsHit_6 (by decide) rfl ?_
  refine x_aload_n dX4_cellsHit_7 rfl ?_
  refine x_alenI (v := 640) dX4_cellsHit_8 hS.2.2.2.2.2.2.2 (by decide) ?_
  refine x_istore_n dX4_cellsHit_9 (by decide) rfl ?_
  refine x_iconst (v := 0) dX4_cellsHit_10 (by decide) ?_
  refine x_istore dX4_cellsHit_11 (by decide) rfl ?_
  refine xV.sub (L' := [.ref (B 5), .int (0 : Int32), .ref (B 7), .int 640, .int (nI 0), xU]) ⟨Or.inr rfl, Or.inr rfl, Or.inr rfl, Or.inr rfl, Or.inr (congrArg Value.int nI_0.symm), Or.inl rfl, trivial⟩ (loop 640 0 (0 : Int32) (by omega) hQ)
def LX0_covering (n : Int32) (V : Nat → Nat → Int32) (x y : Int32) : Nat → Nat → Int32
  | 0, j => (-9 : Int32)
  | n9 + 1, j => (if ((V 2) (Int32.toNatClampNeg (nI j))) = y then (if x < ((V 1) (Int32.toNatClampNeg (nI j))) then (LX0_covering n V x y n9 (j + 1) ) else (if (((V 1) (Int32.toNatClampNeg (nI j))) + ((V 3) (Int32.toNatClampNeg (nI j)))) ≤ x then (LX0_covering n V x y n9 (j + 1) ) else (nI j))) else (LX0_covering n V x y n9 (j + 1) ))
def FX0_covering (n : Int32) (V : Nat → Nat → Int32) (x y : Int32) : Int32 := LX0_covering n V x y (n).toNatClampNeg 0 
set_option maxHeartbeats 4000000 in
set_option maxRecDepth 100000 in
theorem kX0_covering {G : xG} {l : Launch} {d : Nat} {h : xH} {Q : Option Value → xH → Prop} {C : Nat → Nat} {n : Int32} {V : Nat → Nat → Int32} {x y : Int32} (hL : xLab G C n V h) (hn20 : n ≤ 20)  (hQ : Q (some (.int (FX0_covering n V x y))) h) : xV G l mX0_covering d 0 0 0 0 0 [.ref (C 0), .int x, .int y, xU] [] h Q := by
  have hN31 : (n).toNatClampNeg < 2 ^ 31 := xclamp_lt _
  have loop : ∀ (n9 j : Nat), j + n9 = (n).toNatClampNeg → Q (some (.int (LX0_covering n V x y n9 j))) h → xV G l mX0_covering d 0 0 0 0 2 [.ref (C 0), .int x, .int y, .int (nI j)] [] h Q := by
    intro n9
    induction n9 with
    | zero =>
      intro j hj hQ
      rw [LX0_covering] at hQ
      refine x_iload_n dX0_covering_2 rfl ?_
      refine x_aload_n dX0_covering_3 rfl ?_
      refine x_get 0 dX0_covering_4 hL.1 rfl (by decide) (by decide +kernel) rfl ?_
      refine x_icmp_ge (tgt := 55) dX0_covering_7 (by decide) (fun _ => ?_) (fun z9 => absurd (xge_b (by omega) (by omega)) z9)
      refine x_bipush (v := (-9)) dX0_covering_55 (by decide) ?_
      exact x_iret dX0_covering_57 rfl hQ
    | succ n9 ih =>
      intro j hj hQ
      rw [LX0_covering] at hQ
      refine x_iload_n dX0_covering_2 rfl ?_
      refine x_aload_n dX0_covering_3 rfl ?_
      refine x_get 0 dX0_covering_4 hL.1 rfl (by decide) (by decide +kernel) rfl ?_
      refine x_icmp_ge (tgt := 55) dX0_covering_7 (by decide) (fun z9 => absurd z9 (xlt_b (by omega))) (fun _ => ?_)
      refine x_aload_n dX0_covering_10 rfl ?_
      refine x_get 2 dX0_covering_11 hL.1 rfl (by decide) (by decide +kernel) rfl ?_
      refine x_iload_n dX0_covering_14 rfl ?_
      refine x_iald dX0_covering_15 hL.2.2.1 (xlbl_in hn20 (by omega)) ?_
      refine x_iload_n dX0_covering_16 rfl ?_
      refine x_icmp_ne (tgt := 49) dX0_covering_17 (by decide) (fun hc_17 => ?_) (fun hc_17 => ?_)
      · refine x_iinc (v := 1) dX0_covering_49 rfl (by decide) (by decide) rfl ?_
        refine x_goto (tgt := 2) dX0_covering_52 (by decide) ?_
        refine xV.sub (L' := [.ref (C 0), .int x, .int y, .int (nI (j + 1))]) ⟨Or.inr rfl, Or.inr rfl, Or.inr rfl, Or.inr (congrArg Value.int (nI_1 j)), trivial⟩ (ih (j + 1)  (by omega) (by rw [if_neg hc_17] at hQ; exact hQ))
      · refine x_iload_n dX0_covering_20 rfl ?_
        refine x_aload_n dX0_covering_21 rfl ?_
        refine x_get 1 dX0_covering_22 hL.1 rfl (by decide) (by decide +kernel) rfl ?_
        refine x_iload_n dX0_covering_25 rfl ?_
        refine x_iald dX0_covering_26 hL.2.1 (xlbl_in hn20 (by omega)) ?_
        refine x_icmp_lt (tgt := 49) dX0_covering_27 (by decide) (fun hc_27 => ?_) (fun hc_27 => ?_)
        · refine x_iinc (v := 1) dX0_covering_49 rfl (by decide) (by decide) rfl ?_
          refine x_goto (tgt := 2) dX0_covering_52 (by decide) ?_
          refine xV.sub (L' := [.ref (C 0), .int x, .int y, .int (nI (j + 1))]) ⟨Or.inr rfl, Or.inr rfl, Or.inr rfl, Or.inr (congrArg Value.int (nI_1 j)), trivial⟩ (ih (j + 1)  (by omega) (by rw [if_pos hc_17, if_pos hc_27] at hQ; exact hQ))
        · refine x_iload_n dX0_covering_30 rfl ?_
          refine x_aload_n dX0_covering_31 rfl ?_
          refine x_get 1 dX0_covering_32 hL.1 rfl (by decide) (by decide +kernel) rfl ?_
          refine x_iload_n dX0_covering_35 rfl ?_
          refine x_iald dX0_covering_36 hL.2.1 (xlbl_in hn20 (by omega)) ?_
          refine x_aload_n dX0_covering_37 rfl ?_
          refine x_get 3 dX0_covering_38 hL.1 rfl (by decide) (by decide +kernel) rfl ?_
          refine x_iload_n dX0_covering_41 rfl ?_
          refine x_iald dX0_covering_42 hL.2.2.2.1 (xlbl_in hn20 (by omega)) ?_
          refine x_iadd dX0_covering_43 ?_
          refine x_icmp_ge (tgt := 49) dX0_covering_44 (by decide) (fun hc_44 => ?_) (fun hc_44 => ?_)
          · refine x_iinc (v := 1) dX0_covering_49 rfl (by decide) (by decide) rfl ?_
            refine x_goto (tgt := 2) dX0_covering_52 (by decide) ?_
            refine xV.sub (L' := [.ref (C 0), .int x, .int y, .int (nI (j + 1))]) ⟨Or.inr rfl, Or.inr rfl, Or.inr rfl, Or.inr (congrArg Value.int (nI_1 j)), trivial⟩ (ih (j + 1)  (by omega) (by rw [if_pos hc_17, if_neg hc_27, if_pos hc_44] at hQ; exact hQ))
          · refine x_iload_n dX0_covering_47 rfl ?_
            exact x_iret dX0_covering_48 rfl (by rw [if_pos hc_17, if_neg hc_27, if_neg hc_44] at hQ; exact hQ)
  refine x_iconst (v := 0) dX0_covering_0 (by decide) ?_
  refine x_istore_n dX0_covering_1 (by decide) rfl ?_
  refine xV.sub (L' := [.ref (C 0), .int x, .int y, .int (nI 0)]) ⟨Or.inr rfl, Or.inr rfl, Or.inr rfl, Or.inr (congrArg Value.int nI_0.symm), trivial⟩ (loop (n).toNatClampNeg 0  (by omega) hQ)
