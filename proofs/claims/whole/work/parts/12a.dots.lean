/-- a row told by other words: the same numbers at its places -/
theorem x_rext {G : xG} {l : Launch} {M : xM} {d mc ms k n pc : Nat} {L st : List Value} {h : xH} {Q : Option Value → xH → Prop} {a m : Nat} {f f' : Nat → Int32} (hh : h a = some (xRi G m f)) (e : ∀ j, j < m → f j = f' j) (kk : xV G l M d mc ms k n pc L st (xup h a (xRi G m f')) Q) : xV G l M d mc ms k n pc L st h Q := by
  intro p e9 s m9 args below meth c C H locs ls hW hlo hL
  refine kk p e9 s m9 args below meth c C H locs ls ⟨hW.1, hW.2.1, fun b c' hb => ?_⟩ hlo hL
  by_cases e2 : b = a
  · subst e2
    rw [xup_s] at hb
    cases hb
    have h1 := hW.2.2 b _ hh
    refine ⟨?_, h1.2⟩
    have h2 : H[b]? = some (vp_cell (xI G) (m, .inl f)) := h1.1
    show H[b]? = some (vp_cell (xI G) (m, .inl f'))
    rw [h2, vp_cell_i, vp_cell_i]
    have h3 : (Array.ofFn (n := m) fun j => Value.int (f j.val)) = Array.ofFn (n := m) fun j => Value.int (f' j.val) := by
      congr 1
      funext j
      rw [e j.val j.isLt]
    simp only [arrV, h3]
  · rw [xup_n e2] at hb
    exact hW.2.2 b c' hb
abbrev xRw : Type := Nat → Int32
abbrev xR2 : Type := xRw × xRw
def vrow (V : Nat → Nat → Int32) (r : xR2) : Nat → Nat → Int32 := va_up (va_up V 6 r.1) 7 r.2
def dHit (f : xRw) (q t : Int32) : xRw := upd f (Int32.toNatClampNeg q) ((f (Int32.toNatClampNeg q)) ||| ((1 : Int32) <<< (t &&& 31)))
def dInk (f : xRw) (q b : Int32) : xRw := upd f (Int32.toNatClampNeg q) ((f (Int32.toNatClampNeg q)) ||| b)
def dcell (p : xPv) (x y : Int32) : Int32 := FX1_cellAt p (FX1_columnOf p x) (FX1_rowOf p y)
def dbit (x y : Int32) : Int32 := xBits.getD (Int32.toNatClampNeg (((4 * (x &&& 1)) + 3) - (y &&& 3))) 0
def dotR (p : xPv) (r : xR2) (x y t : Int32) : xR2 := (dInk r.1 (dcell p x y) (dbit x y), dHit r.2 (dcell p x y) t)
/-- outside the rows of what is drawn nothing has changed -/
def xfr (B : Nat → Nat) (h h' : xH) : Prop := ∀ a : Nat, a ≠ B 6 → a ≠ B 7 → h' a = h a
theorem xfr.rf {B : Nat → Nat} {h : xH} : xfr B h h := fun _ _ _ => rfl
theorem xfr.tr {B : Nat → Nat} {h h1 h2 : xH} (a : xfr B h h1) (b : xfr B h1 h2) : xfr B h h2 := fun q e1 e2 => (b q e1 e2).trans (a q e1 e2)
theorem xfr.u6 {B : Nat → Nat} {h : xH} {c : va_E} : xfr B h (xup h (B 6) c) := fun _ e _ => xup_n e
theorem xfr.u7 {B : Nat → Nat} {h : xH} {c : va_E} : xfr B h (xup h (B 7) c) := fun _ _ e => xup_n e
theorem xPg.fr {pg sx sy : Nat} {p : xPv} {B : Nat → Nat} {h h' : xH} (hF : xfr B h h') (hn : ∀ i, B i ≠ pg ∧ B i ≠ sx ∧ B i ≠ sy) (hP : xPg pg sx sy p h) : xPg pg sx sy p h' :=
  ⟨by rw [hF _ (Ne.symm (hn 6).1) (Ne.symm (hn 7).1)]; exact hP.1, by rw [hF _ (Ne.symm (hn 6).2.1) (Ne.symm (hn 7).2.1)]; exact hP.2.1, by rw [hF _ (Ne.symm (hn 6).2.2) (Ne.symm (hn 7).2.2)]; exact hP.2.2⟩
theorem xin_640 {q : Int32} (h : vp_in q 640) : ¬ q < 0 ∧ q < 640 := by
  rw [vp_in_iff] at h
  rw [Int32.lt_iff_toInt_lt, Int32.lt_iff_toInt_lt]
  have e0 : (0 : Int32).toInt = 0 := rfl
  have e24 : (640 : Int32).toInt = 640 := rfl
  omega
theorem dbit_in (x y : Int32) : vp_in (((4 * (x &&& 1)) + 3) - (y &&& 3)) 8 := by
  obtain ⟨a, ha, ea⟩ := pk_andE x (m := 1) 1 (by decide)
  obtain ⟨b, hb, eb⟩ := pk_andE y (m := 3) 2 (by decide)
  rw [ea, eb]
  have h : ∀ a, a < 2 → ∀ b, b < 4 → ¬ ((((4 * nI a) + 3) - nI b) < 0 ∨ 8 ≤ (((4 * nI a) + 3) - nI b).toNatClampNeg) := by decide
  exact h a ha b hb
theorem kX4_touchI {G : xG} {l : Launch} {d : Nat} {h : xH} {Q : Option Value → xH → Prop} {pg : Nat} {B : Nat → Nat} {I : xSi} {V : Nat → Nat → Int32} {q t : Int32} (hS : xSer G B pg I V h) (hq : vp_in q 640) (hQ : Q (some (.int 1)) (xup h (B 7) (xRi G 640 (dHit (V 7) q t)))) : xV G l mX4_touch d 0 0 0 0 0 [.ref (B 5), .int q, .int t] [] h Q :=
  kX4_touch hS (by rw [if_neg (xin_640 hq).1, if_pos (xin_640 hq).2]; exact hQ)
set_option maxHeartbeats 4000000 in
set_option maxRecDepth 100000 in
theorem kX4_dot {G : xG} {l : Launch} {d : Nat} {h : xH} {Q : Option Value → xH → Prop} {pg sx sy : Nat} {p : xPv} {B : Nat → Nat} {I : xSi} {V : Nat → Nat → Int32} {x y t : Int32} (hP : xPg pg sx sy p h) (hS : xSer G B pg I V h) (hB : ∀ {i j : Nat}, i ≠ j → B i ≠ B j) (hq : vp_in (dcell p x y) 640)  (hQ : Q none (xup (xup h (B 7) (xRi G 640 (dHit (V 7) (dcell p x y) t))) (B 6) (xRi G 640 (upd (V 6) (Int32.toNatClampNeg (dcell p x y)) (((V 6) (Int32.toNatClampNeg (dcell p x y))) ||| ((fun j => xBits.getD j 0) (Int32.toNatClampNeg ((((4 : Int32) * (x &&& (1 : Int32))) + (3 : Int32)) - (y &&& (3 : Int32)))))))))) : xV G l mX4_dot (d + 1) 0 0 0 0 0 [.ref (B 5), .int x, .int y, .int t, xU] [] h Q := by
  refine x_aload_n dX4_dot_0 rfl ?_
  refine x_get 0 dX4_dot_1 hS.2.2.2.2.2.1 rfl (by decide) (by decide +kernel) rfl ?_
  refine x_aload_n dX4_dot_4 rfl ?_
  refine x_get 0 dX4_dot_5 hS.2.2.2.2.2.1 rfl (by decide) (by decide +kernel) rfl ?_
  refine x_iload_n dX4_dot_8 rfl ?_
  refine x_callV (M' := mX1_columnOf) (mc' := 0) (ms' := 0) (As := [.int x]) dX4_dot_9 gX4_dot_X1_columnOf okX1_columnOf rfl rfl hP.1 rfl (Nat.le_of_ble_eq_true rfl) (Nat.le_of_ble_eq_true rfl) (Nat.le_refl _) (Nat.le_refl _) (Nat.le_refl _) ?_
  refine kX1_columnOf hP ?_
  show xV _ _ _ _ _ _ _ _ _ _ _ _ _
  refine x_aload_n dX4_dot_12 rfl ?_
  refine x_get 0 dX4_dot_13 hS.2.2.2.2.2.1 rfl (by decide) (by decide +kernel) rfl ?_
  refine x_iload_n dX4_dot_16 rfl ?_
  refine x_callV (M' := mX1_rowOf) (mc' := 0) (ms' := 0) (As := [.int y]) dX4_dot_17 gX4_dot_X1_rowOf okX1_rowOf rfl rfl hP.1 rfl (Nat.le_of_ble_eq_true rfl) (Nat.le_of_ble_eq_true rfl) (Nat.le_refl _) (Nat.le_refl _) (Nat.le_refl _) ?_
  refine kX1_rowOf hP ?_
  show xV _ _ _ _ _ _ _ _ _ _ _ _ _
  refine x_callV (M' := mX1_cellAt) (mc' := 0) (ms' := 0) (As := [.int (FX1_columnOf p x), .int (FX1_rowOf p y)]) dX4_dot_20 gX4_dot_X1_cellAt okX1_cellAt rfl rfl hP.1 rfl (Nat.le_of_ble_eq_true rfl) (Nat.le_of_ble_eq_true rfl) (Nat.le_refl _) (Nat.le_refl _) (Nat.le_refl _) ?_
  refine kX1_cellAt hP ?_
  show xV _ _ _ _ _ _ _ _ _ _ _ _ _
  refine x_ls (st' := [.int (dcell p x y)]) rfl rfl ?_
  refine x_istore dX4_dot_23 (by decide) rfl ?_
  refine x_aload_n dX4_dot_25 rfl ?_
  refine x_iload dX4_dot_26 rfl ?_
  refine x_iload_n dX4_dot_28 rfl ?_
  refine x_callV (M' := mX4_touch) (mc' := 0) (ms' := 0) (As := [.int (dcell p x y), .int t]) dX4_dot_29 gX4_dot_X4_touch okX4_touch rfl rfl hS.2.2.2.2.2.1 rfl (Nat.le_of_ble_eq_true rfl) (Nat.le_of_ble_eq_true rfl) (Nat.le_refl _) (Nat.le_refl _) (Nat.le_refl _) ?_
  refine kX4_touchI hS hq ?_
  show xV _ _ _ _ _ _ _ _ _ _ _ _ _
  refine x_if_eq (tgt := 60) dX4_dot_32 (by decide) (fun z9 => absurd z9 (by decide)) (fun _ => ?_)
  refine x_aload_n dX4_dot_35 rfl ?_
  refine x_get 1 dX4_dot_36 (xup_k (hB (by decide)) hS.2.2.2.2.2.1) rfl (by decide) (by decide +kernel) rfl ?_
  refine x_iload dX4_dot_39 rfl ?_
  refine x_dup2 dX4_dot_41 rfl rfl ?_
  refine x_iald dX4_dot_42 (xup_k (hB (by decide)) hS.2.2.2.2.2.2.1) hq ?_
  refine x_getsN dX4_dot_43 (fun s q => q.2.2.1.2.1) (fun s q => q.2.2.2.2.2.2.2.2.1) ?_
  refine x_iconst (v := 4) dX4_dot_46 (by decide) ?_
  refine x_iload_n dX4_dot_47 rfl ?_
  refine x_iconst (v := 1) dX4_dot_48 (by decide) ?_
  refine x_iand dX4_dot_49 ?_
  refine x_imul dX4_dot_50 ?_
  refine x_iconst (v := 3) dX4_dot_51 (by decide) ?_
  refine x_iadd dX4_dot_52 ?_
  refine x_iload_n dX4_dot_53 rfl ?_
  refine x_iconst (v := 3) dX4_dot_54 (by decide) ?_
  refine x_iand dX4_dot_55 ?_
  refine x_isub dX4_dot_56 ?_
  refine x_tld (f := (fun j => xBits.getD j 0)) dX4_dot_57 (fun s q => q.2.2.2.1.2.1) (dbit_in x y) ?_
  refine x_ior dX4_dot_58 ?_
  refine x_iast dX4_dot_59 (xup_k (hB (by decide)) hS.2.2.2.2.2.2.1) hq ?_
  exact x_vret dX4_dot_60 rfl hQ
theorem kX4_dotA {G : xG} {l : Launch} {d : Nat} {h : xH} {Q : Option Value → xH → Prop} {pg sx sy : Nat} {p : xPv} {B : Nat → Nat} {I : xSi} {V : Nat → Nat → Int32} {r : xR2} {x y t : Int32} (hP : xPg pg sx sy p h) (hS : xSer G B pg I (vrow V r) h) (hB : ∀ {i j : Nat}, i ≠ j → B i ≠ B j) (hq : vp_in (dcell p x y) 640) (hQ : ∀ h', xSer G B pg I (vrow V (dotR p r x y t)) h' → xfr B h h' → Q none h') : xV G l mX4_dot (d + 1) 0 0 0 0 0 [.ref (B 5), .int x, .int y, .int t, xU] [] h Q := by
  refine kX4_dot hP hS hB hq (hQ _ ?_ ?_)
  · have h1 := (hS.up7 hB (dHit r.2 (dcell p x y) t)).up6 hB (dInk r.1 (dcell p x y) (dbit x y))
    have e1 : va_up (va_up (vrow V r) 7 (dHit r.2 (dcell p x y) t)) 6 (dInk r.1 (dcell p x y) (dbit x y)) = vrow V (dotR p r x y t) := by
      funext q
      simp only [vrow, va_up, dotR]
      by_cases h6 : q = 6
      · subst h6; simp
      · by_cases h7 : q = 7
        · subst h7; simp
        · simp [h6, h7]
    rw [e1] at h1
    exact h1
  · exact xfr.u7.tr xfr.u6
set_option maxHeartbeats 4000000 in
set_option maxRecDepth 100000 in
theorem kX4_spot {G : xG} {l : Launch} {d : Nat} {h : xH} {Q : Option Value → xH → Prop} {pg sx sy : Nat} {p : xPv} {B : Nat → Nat} {I : xSi} {V : Nat → Nat → Int32} {x y t : Int32} (hP : xPg pg sx sy p h) (hS : xSer G B pg I V h) (hq : vp_in (dcell p x y) 640)  (hQ : Q none (xup h (B 7) (xRi G 640 (dHit (V 7) (FX1_cellAt p (FX1_columnOf p x) (FX1_rowOf p y)) t)))) : xV G l mX4_spot (d + 1) 0 0 0 0 0 [.ref (B 5), .int x, .int y, .int t] [] h Q := by
  refine x_aload_n dX4_spot_0 rfl ?_
  refine x_aload_n dX4_spot_1 rfl ?_
  refine x_get 0 dX4_spot_2 hS.2.2.2.2.2.1 rfl (by decide) (by decide +kernel) rfl ?_
  refine x_aload_n dX4_spot_5 rfl ?_
  refine x_get 0 dX4_spot_6 hS.2.2.2.2.2.1 rfl (by decide) (by decide +kernel) rfl ?_
  refine x_iload_n dX4_spot_9 rfl ?_
  refine x_callV (M' := mX1_columnOf) (mc' := 0) (ms' := 0) (As := [.int x]) dX4_spot_10 gX4_spot_X1_columnOf okX1_columnOf rfl rfl hP.1 rfl (Nat.le_of_ble_eq_true rfl) (Nat.le_of_ble_eq_true rfl) (Nat.le_refl _) (Nat.le_refl _) (Nat.le_refl _) ?_
  refine kX1_columnOf hP ?_
  show xV _ _ _ _ _ _ _ _ _ _ _ _ _
  refine x_aload_n dX4_spot_13 rfl ?_
  refine x_get 0 dX4_spot_14 hS.2.2.2.2.2.1 rfl (by decide) (by decide +kernel) rfl ?_
  refine x_iload_n dX4_spot_17 rfl ?_
  refine x_callV (M' := mX1_rowOf) (mc' := 0) (ms' := 0) (As := [.int y]) dX4_spot_18 gX4_spot_X1_rowOf okX1_rowOf rfl rfl hP.1 rfl (Nat.le_of_ble_eq_true rfl) (Nat.le_of_ble_eq_true rfl) (Nat.le_refl _) (Nat.le_refl _) (Nat.le_refl _) ?_
  refine kX1_rowOf hP ?_
  show xV _ _ _ _ _ _ _ _ _ _ _ _ _
  refine x_callV (M' := mX1_cellAt) (mc' := 0) (ms' := 0) (As := [.int (FX1_columnOf p x), .int (FX1_rowOf p y)]) dX4_spot_21 gX4_spot_X1_cellAt okX1_cellAt rfl rfl hP.1 rfl (Nat.le_of_ble_eq_true rfl) (Nat.le_of_ble_eq_true rfl) (Nat.le_refl _) (Nat.le_refl _) (Nat.le_refl _) ?_
  refine kX1_cellAt hP ?_
  show xV _ _ _ _ _ _ _ _ _ _ _ _ _
  refine x_iload_n dX4_spot_24 rfl ?_
  refine x_callV (M' := mX4_touch) (mc' := 0) (ms' := 0) (As := [.int (FX1_cellAt p (FX1_columnOf p x) (FX1_rowOf p y)), .int t]) dX4_spot_25 gX4_spot_X4_touch okX4_touch rfl rfl hS.2.2.2.2.2.1 rfl (Nat.le_of_ble_eq_true rfl) (Nat.le_of_ble_eq_true rfl) (Nat.le_refl _) (Nat.le_refl _) (Nat.le_refl _) ?_
  refine kX4_touchI hS hq ?_
  show xV _ _ _ _ _ _ _ _ _ _ _ _ _
  refine x_pop dX4_spot_28 rfl ?_
  exact x_vret dX4_spot_29 rfl hQ
