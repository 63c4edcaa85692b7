def xfrC (B : Nat → Nat → Nat) (h h' : xH) : Prop := ∀ a : Nat, (∀ k i, a ≠ B k i) → h' a = h a
def st1 (I : xSi) : xSi := (I.1, I.2.1, I.2.2.1, I.2.2.2.1, 1)
def st0 (I : xSi) : xSi := (I.1, I.2.1, I.2.2.1, I.2.2.2.1, 0)
/-- a series as it is behind drawIfStale -/
def fV (p : xPv) (I : xSi) (V : Nat → Nat → Int32) : Nat → Nat → Int32 := vrow V (FX3_draw p I V)
theorem xCls.ext {G : xG} {sc pg sx sy al ed : Nat} {C : Nat → Nat} {B : Nat → Nat → Nat} {p : xPv} {n : Int32} {U : Nat → Nat → Int32} {md : Int32} {N : Nat} {I I' : Nat → xSi} {V V' : Nat → Nat → Nat → Int32} {h : xH} (hK : xCls G sc pg sx sy al ed C B p n U md N I V h) (e1 : ∀ k, k < N → I k = I' k) (e2 : ∀ k, k < N → V k = V' k) : xCls G sc pg sx sy al ed C B p n U md N I' V' h :=
  ⟨hK.1, hK.2.1, hK.2.2.1, hK.2.2.2.1, hK.2.2.2.2.1, fun k hk => by rw [← e1 k hk, ← e2 k hk]; exact hK.2.2.2.2.2.1 k hk, hK.2.2.2.2.2.2⟩
def mI (f : Nat → xSi) (I : Nat → xSi) (j : Nat) : Nat → xSi := fun k => if k < j then f k else I k
theorem mI_s {f I : Nat → xSi} {j : Nat} : va_up (mI f I j) j (f j) = mI f I (j + 1) := by
  funext k
  simp only [va_up, mI]
  by_cases h : k = j
  · subst h; simp
  · by_cases h2 : k < j
    · simp [h, h2, show k < j + 1 by omega]
    · simp [h, h2, show ¬ k < j + 1 by omega]
def mV (f : Nat → Nat → Nat → Int32) (V : Nat → Nat → Nat → Int32) (j : Nat) : Nat → Nat → Nat → Int32 := fun k => if k < j then f k else V k
theorem mV_s {f V : Nat → Nat → Nat → Int32} {j : Nat} : va_up (mV f V j) j (f j) = mV f V (j + 1) := by
  funext k
  simp only [va_up, mV]
  by_cases h : k = j
  · subst h; simp
  · by_cases h2 : k < j
    · simp [h, h2, show k < j + 1 by omega]
    · simp [h, h2, show ¬ k < j + 1 by omega]
theorem mI_at {f I : Nat → xSi} {j : Nat} : mI f I j j = I j := by simp [mI]
theorem mV_at {f V : Nat → Nat → Nat → Int32} {j : Nat} : mV f V j j = V j := by simp [mV]
theorem xups {α : Type} {f : Nat → α} {k : Nat} : va_up f k (f k) = f := by
  funext q
  simp only [va_up]
  by_cases h : q = k
  · subst h; simp
  · simp [h]
set_option maxHeartbeats 4000000 in
set_option maxRecDepth 100000 in
theorem kX5_markAllStale {G : xG} {l : Launch} {d : Nat} {h : xH} {Q : Option Value → xH → Prop} {sc pg sx sy al ed : Nat} {C : Nat → Nat} {B : Nat → Nat → Nat} {p : xPv} {n : Int32} {U : Nat → Nat → Int32} {md : Int32} {N : Nat} {I : Nat → xSi} {V : Nat → Nat → Nat → Int32} (hK : xCls G sc pg sx sy al ed C B p n U md N I V h) (hD : xDs sc pg sx sy al ed C B) (hQ : ∀ h', xCls G sc pg sx sy al ed C B p n U md N (fun k => st1 (I k)) V h' → xfrC B h h' → Q none h') : xV G l mX5_markAllStale (d + 3) 0 0 0 0 0 [.ref sc, xU] [] h Q := by
  have hN6 := hK.2.2.2.2.2.2
  have loop : ∀ (n9 j : Nat) (h1 : xH), j + n9 = N → xCls G sc pg sx sy al ed C B p n U md N (mI (fun k => st1 (I k)) I j) V h1 → xfrC B h h1 → xV G l mX5_markAllStale (d + 3) 0 0 0 0 2 [.ref sc, .int (nI j)] [] h1 Q := by
    intro n9
    clear hK
    induction n9 with
    | zero =>
      intro j h1 hj9 hK hF
      refine x_iload_n dX5_markAllStale_2 rfl ?_
      refine x_aload_n dX5_markAllStale_3 rfl ?_
      refine x_get 1 dX5_markAllStale_4 hK.1 rfl (by decide) (by decide +kernel) rfl ?_
      refine x_callV (M' := mJx4a65c_size_8abf5) (mc' := 0) (ms' := 0) (As := []) dX5_markAllStale_7 gX5_markAllStale_Jx4a65c_size_8abf5 okJx4a65c_size_8abf5 rfl rfl hK.2.2.2.1 rfl (Nat.le_of_ble_eq_true rfl) (Nat.le_of_ble_eq_true rfl) (Nat.le_refl _) (Nat.le_refl _) (Nat.le_refl _) ?_
      refine kJx4a65c_size_8abf5 hK.2.2.2.1 ?_
      show xV _ _ _ _ _ _ _ _ _ _ _ _ _
      refine x_icmp_ge (tgt := 34) dX5_markAllStale_10 (by decide) (fun _ => ?_) (fun z9 => absurd (nI_le (a := N) (b := j) (by omega) (by omega)) z9)
      exact x_vret dX5_markAllStale_34 rfl (hQ h1 (hK.ext (fun k hk => by simp only [mI]; rw [if_pos (by omega)]) (fun _ _ => rfl)) hF)
    | succ n9 ih =>
      intro j h1 hj9 hK hF
      refine x_iload_n dX5_markAllStale_2 rfl ?_
      refine x_aload_n dX5_markAllStale_3 rfl ?_
      refine x_get 1 dX5_markAllStale_4 hK.1 rfl (by decide) (by decide +kernel) rfl ?_
      refine x_callV (M' := mJx4a65c_size_8abf5) (mc' := 0) (ms' := 0) (As := []) dX5_markAllStale_7 gX5_markAllStale_Jx4a65c_size_8abf5 okJx4a65c_size_8abf5 rfl rfl hK.2.2.2.1 rfl (Nat.le_of_ble_eq_true rfl) (Nat.le_of_ble_eq_true rfl) (Nat.le_refl _) (Nat.le_refl _) (Nat.le_refl _) ?_
      refine kJx4a65c_size_8abf5 hK.2.2.2.1 ?_
      show xV _ _ _ _ _ _ _ _ _ _ _ _ _
      refine x_icmp_ge (tgt := 34) dX5_markAllStale_10 (by decide) (fun z9 => absurd z9 (nI_ge (a := j) (b := N) (by omega) (by omega))) (fun _ => ?_)
      have hj : j < N := by omega
      refine x_aload_n dX5_markAllStale_13 rfl ?_
      refine x_get 1 dX5_markAllStale_14 hK.1 rfl (by decide) (by decide +kernel) rfl ?_
      refine x_iload_n dX5_markAllStale_17 rfl ?_
      refine x_callV (M' := mJx4a65c_get_915e3) (mc' := 0) (ms' := 0) (As := [.int (nI j)]) dX5_markAllStale_18 gX5_markAllStale_Jx4a65c_get_915e3 okJx4a65c_get_915e3 rfl rfl hK.2.2.2.1 rfl (Nat.le_of_ble_eq_true rfl) (Nat.le_of_ble_eq_true rfl) (Nat.le_refl _) (Nat.le_refl _) (Nat.le_refl _) ?_
      refine kJx4a65c_get_915e3 (j := j) hK.2.2.2.1 (hK.2.2.2.2.1 (by omega)) hj hK.2.2.2.2.2.2 ?_
      show xV _ _ _ _ _ _ _ _ _ _ _ _ _
      refine x_cast dX5_markAllStale_21 (hK.2.2.2.2.2.1 j hj).1 rfl (by decide +kernel) ?_
      refine x_iconst (v := 1) dX5_markAllStale_24 (by decide) ?_
      refine x_put 4 dX5_markAllStale_25 (hK.2.2.2.2.2.1 j hj).1 rfl (by decide) (by decide +kernel) rfl rfl rfl rfl (Nat.le_of_ble_eq_true rfl) ?_
      refine x_iinc (v := 1) dX5_markAllStale_28 rfl (by decide) (by decide) rfl ?_
      refine x_goto (tgt := 2) dX5_markAllStale_31 (by decide) ?_
      refine xV.sub (L' := [.ref sc, .int (nI (j + 1))]) ⟨Or.inr rfl, Or.inr (congrArg Value.int (nI_1 j)), trivial⟩ (ih (j + 1) _ (by omega) ?_ ?_)
      · have h3 := hK.ser hD (j := j) (h' := xup h1 (B j 0) (xSo (B j) pg (st1 (mI (fun k => st1 (I k)) I j j)))) (fun a ha => xup_n (ha 0)) ((hK.2.2.2.2.2.1 j hj).up0 (hD.b j))
        rw [xups, mI_at, mI_s (f := fun k => st1 (I k))] at h3
        rw [mI_at]
        exact h3
      · intro a ha
        exact (xup_n (ha j 0)).trans (hF a ha)
  refine x_iconst (v := 0) dX5_markAllStale_0 (by decide) ?_
  refine x_istore_n dX5_markAllStale_1 (by decide) rfl ?_
  refine xV.sub (L' := [.ref sc, .int (nI 0)]) ⟨Or.inr rfl, Or.inr (congrArg Value.int nI_0.symm), trivial⟩ (loop N 0 h (by omega) (hK.ext (fun k hk => by simp [mI]) (fun _ _ => rfl)) (fun _ _ => rfl))
theorem vrow_self (V : Nat → Nat → Int32) : vrow V (V 6, V 7) = V := by
  funext q
  simp only [vrow, va_up]
  by_cases h6 : q = 6
  · subst h6; simp
  · by_cases h7 : q = 7
    · subst h7; simp
    · simp [h6, h7]
set_option maxHeartbeats 4000000 in
set_option maxRecDepth 100000 in
theorem kX5_drawStale {G : xG} {l : Launch} {d : Nat} {h : xH} {Q : Option Value → xH → Prop} {sc pg sx sy al ed : Nat} {C : Nat → Nat} {B : Nat → Nat → Nat} {p : xPv} {n : Int32} {U : Nat → Nat → Int32} {md : Int32} {N : Nat} {I : Nat → xSi} {V : Nat → Nat → Nat → Int32} (hK : xCls G sc pg sx sy al ed C B p n U md N I V h) (hD : xDs sc pg sx sy al ed C B) (hz : ∀ k, k < N → (I k).2.2.2.1 ≤ 24) (hok : ∀ k, k < N → ∀ j : Nat, j < ((I k).2.2.2.1).toNatClampNeg → ¬ FX3_isSeen p (I k) (V k) (nI j) = 0 → drOk p (I k) (V k) (nI j)) (hfr : ∀ k, k < N → (I k).2.2.2.2 = 0 → FX3_draw p (I k) (V k) = (V k 6, V k 7)) (hQ : ∀ h', xCls G sc pg sx sy al ed C B p n U md N (fun k => st0 (I k)) (fun k => fV p (I k) (V k)) h' → xfrC B h h' → Q none h') : xV G l mX5_drawStale (d + 5) 0 0 0 0 0 [.ref sc, xU] [] h Q := by
  have hN6 := hK.2.2.2.2.2.2
  have loop : ∀ (n9 j : Nat) (h1 : xH), j + n9 = N → xCls G sc pg sx sy al ed C B p n U md N (mI (fun k => st0 (I k)) I j) (mV (fun k => fV p (I k) (V k)) V j) h1 → xfrC B h h1 → xV G l mX5_drawStale (d + 5) 0 0 0 0 2 [.ref sc, .int (nI j)] [] h1 Q := by
    intro n9
    clear hK
    induction n9 with
    | zero =>
      intro j h1 hj9 hK hF
      refine x_iload_n dX5_drawStale_2 rfl ?_
      refine x_aload_n dX5_drawStale_3 rfl ?_
      refine x_get 1 dX5_drawStale_4 hK.1 rfl (by decide) (by decide +kernel) rfl ?_
      refine x_callV (M' := mJx4a65c_size_8abf5) (mc' := 0) (ms' := 0) (As := []) dX5_drawStale_7 gX5_drawStale_Jx4a65c_size_8abf5 okJx4a65c_size_8abf5 rfl rfl hK.2.2.2.1 rfl (Nat.le_of_ble_eq_true rfl) (Nat.le_of_ble_eq_true rfl) (Nat.le_refl _) (Nat.le_refl _) (Nat.le_refl _) ?_
      refine kJx4a65c_size_8abf5 hK.2.2.2.1 ?_
      show xV _ _ _ _ _ _ _ _ _ _ _ _ _
      refine x_icmp_ge (tgt := 33) dX5_drawStale_10 (by decide) (fun _ => ?_) (fun z9 => absurd (nI_le (a := N) (b := j) (by omega) (by omega)) z9)
      exact x_vret dX5_drawStale_33 rfl (hQ h1 (hK.ext (fun k hk => by simp only [mI]; rw [if_pos (by omega)]) (fun k hk => by simp only [mV]; rw [if_pos (by omega)])) hF)
    | succ n9 ih =>
      intro j h1 hj9 hK hF
      refine x_iload_n dX5_drawStale_2 rfl ?_
      refine x_aload_n dX5_drawStale_3 rfl ?_
      refine x_get 1 dX5_drawStale_4 hK.1 rfl (by decide) (by decide +kernel) rfl ?_
      refine x_callV (M' := mJx4a65c_size_8abf5) (mc' := 0) (ms' := 0) (As := []) dX5_drawStale_7 gX5_drawStale_Jx4a65c_size_8abf5 okJx4a65c_size_8abf5 rfl rfl hK.2.2.2.1 rfl (Nat.le_of_ble_eq_true rfl) (Nat.le_of_ble_eq_true rfl) (Nat.le_refl _) (Nat.le_refl _) (Nat.le_refl _) ?_
      refine kJx4a65c_size_8abf5 hK.2.2.2.1 ?_
      show xV _ _ _ _ _ _ _ _ _ _ _ _ _
      refine x_icmp_ge (tgt := 33) dX5_drawStale_10 (by decide) (fun z9 => absurd z9 (nI_ge (a := j) (b := N) (by omega) (by omega))) (fun _ => ?_)
      have hj : j < N := by omega
      refine x_aload_n dX5_drawStale_13 rfl ?_
      refine x_get 1 dX5_drawStale_14 hK.1 rfl (by decide) (by decide +kernel) rfl ?_
      refine x_iload_n dX5_drawStale_17 rfl ?_
      refine x_callV (M' := mJx4a65c_get_915e3) (mc' := 0) (ms' := 0) (As := [.int (nI j)]) dX5_drawStale_18 gX5_drawStale_Jx4a65c_get_915e3 okJx4a65c_get_915e3 rfl rfl hK.2.2.2.1 rfl (Nat.le_of_ble_eq_true rfl) (Nat.le_of_ble_eq_true rfl) (Nat.le_refl _) (Nat.le_refl _) (Nat.le_refl _) ?_
      refine kJx4a65c_get_915e3 (j := j) hK.2.2.2.1 (hK.2.2.2.2.1 (by omega)) hj hK.2.2.2.2.2.2 ?_
      show xV _ _ _ _ _ _ _ _ _ _ _ _ _
      refine x_cast dX5_drawStale_21 (hK.2.2.2.2.2.1 j hj).1 rfl (by decide +kernel) ?_
      refine x_callV (M' := mX3_drawIfStale) (mc' := 0) (ms' := 0) (As := []) dX5_drawStale_24 gX5_drawStale_X3_drawIfStale okX3_drawIfStale rfl rfl (hK.2.2.2.2.2.1 j hj).1 rfl (Nat.le_of_ble_eq_true rfl) (Nat.le_of_ble_eq_true rfl) (Nat.le_refl _) (Nat.le_refl _) (Nat.le_refl _) ?_
      refine kX3_drawIfStale (hP := hK.2.1) (hS := hK.2.2.2.2.2.1 j hj) (by rw [mI_at]; exact hz j hj) (hD.b j) (fun i => ⟨(hD.2.2.1 j i).2.1, (hD.2.2.1 j i).2.2.1, (hD.2.2.1 j i).2.2.2.1⟩) (by rw [mI_at, mV_at]; exact hok j hj) (fun hs0 => ?_) (fun hs0 h9 hS9 hF9 => ?_)
      · refine x_iinc (v := 1) dX5_drawStale_27 rfl (by decide) (by decide) rfl ?_
        refine x_goto (tgt := 2) dX5_drawStale_30 (by decide) ?_
        refine xV.sub (L' := [.ref sc, .int (nI (j + 1))]) ⟨Or.inr rfl, Or.inr (congrArg Value.int (nI_1 j)), trivial⟩ (ih (j + 1) h1 (by omega) ?_ hF)
        rw [mI_at] at hs0
        have e1 : mI (fun k => st0 (I k)) I j j = st0 (I j) := by
          rw [mI_at]
          have : I j = st0 (I j) := by
            exact Prod.ext rfl (Prod.ext rfl (Prod.ext rfl (Prod.ext rfl hs0)))
          exact this
        have e2 : mV (fun k => fV p (I k) (V k)) V j j = fV p (I j) (V j) := by
          rw [mV_at]
          show V j = fV p (I j) (V j)
          rw [fV, hfr j hj hs0]
          exact (vrow_self (V j)).symm
        rw [← mI_s, ← mV_s, ← e1, ← e2, xups, xups]
        exact hK
      · refine x_iinc (v := 1) dX5_drawStale_27 rfl (by decide) (by decide) rfl ?_
        refine x_goto (tgt := 2) dX5_drawStale_30 (by decide) ?_
        refine xV.sub (L' := [.ref sc, .int (nI (j + 1))]) ⟨Or.inr rfl, Or.inr (congrArg Value.int (nI_1 j)), trivial⟩ (ih (j + 1) h9 (by omega) ?_ ?_)
        · have h3 := hK.ser hD (j := j) (h' := h9) (fun a ha => hF9 a (ha 0) (ha 6) (ha 7)) hS9
          rw [mI_at, mV_at] at h3
          rw [← mI_s, ← mV_s]
          exact h3
        · intro a ha
          exact (hF9 a (ha j 0) (ha j 6) (ha j 7)).trans (hF a ha)
  refine x_iconst (v := 0) dX5_drawStale_0 (by decide) ?_
  refine x_istore_n dX5_drawStale_1 (by decide) rfl ?_
  refine xV.sub (L' := [.ref sc, .int (nI 0)]) ⟨Or.inr rfl, Or.inr (congrArg Value.int nI_0.symm), trivial⟩ (loop N 0 h (by omega) (hK.ext (fun k hk => by simp [mI]) (fun k hk => by simp [mV])) (fun _ _ => rfl))
