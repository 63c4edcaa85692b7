/-- a half-made object a0: its fields, the rows made so far; all else as in h0 -/
def mkS (a0 : Nat) (fs : List Value) (rows : List (Nat × va_E)) (h0 h : xH) : Prop := h a0 = some (.inr (7, fs)) ∧ (∀ q ∈ rows, h q.1 = some q.2 ∧ q.1 ≠ a0) ∧ ∀ b cc, h0 b = some cc → b ≠ a0 → h b = some cc
theorem mkS.step {a0 b k : Nat} {fs fs' : List Value} {rows : List (Nat × va_E)} {h0 h : xH} {c : va_E} (hm : mkS a0 fs rows h0 h) (t : xTop h b) (e : fs.set k (.ref b) = fs') : ∃ h2, xup (xup h b c) a0 (.inr (7, fs.set k (.ref b))) = h2 ∧ mkS a0 fs' ((b, c) :: rows) h0 h2 := by
  have l0 : a0 ≠ b := Nat.ne_of_lt (t _ _ hm.1)
  refine ⟨_, rfl, by rw [e]; exact xup_s, fun q hq => ?_, fun b' cc hb e0 => ?_⟩
  · rcases List.mem_cons.mp hq with rfl | hq
    · exact ⟨xup_k (Ne.symm l0) xup_s, Ne.symm l0⟩
    · have z := hm.2.1 q hq
      exact ⟨xup_k z.2 (xup_k (Nat.ne_of_lt (t _ _ z.1)) z.1), z.2⟩
  · have z := hm.2.2 b' cc hb e0
    exact xup_k e0 (xup_k (Nat.ne_of_lt (t _ _ z)) z)
theorem mkS.fld {a0 k : Nat} {fs fs' : List Value} {v : Value} {rows : List (Nat × va_E)} {h0 h : xH} (hm : mkS a0 fs rows h0 h) (e : fs.set k v = fs') : ∃ h2, xup h a0 (.inr (7, fs.set k v)) = h2 ∧ mkS a0 fs' rows h0 h2 := by
  refine ⟨_, rfl, by rw [e]; exact xup_s, fun q hq => ?_, fun b' cc hb e0 => xup_k e0 (hm.2.2 b' cc hb e0)⟩
  have z := hm.2.1 q hq
  exact ⟨xup_k z.2 z.1, z.2⟩
set_option maxHeartbeats 4000000 in
set_option maxRecDepth 100000 in
theorem kX6_init {G : xG} {l : Launch} {d : Nat} {h : xH} {Q : Option Value → xH → Prop} {a0 : Nat} (ha : h a0 = some (xOb 7 [.int 0, .int 0, .null, .null, .null, .null, .null, .int 0, .null, .null, .null, .null, .null, .null, .null, .null, .int 0, .null, .null, .null, .null, .null, .int 0, .null, .null, .null])) (hQ : ∀ (h' : xH) (a2 a3 a4 a5 a6 a8 a9 a10 a11 a12 a13 a14 a15 a17 a18 a19 a20 a21 a23 a24 a25 : Nat), xTop h a2 → xB G ≤ a2 → (a0 < a2 ∧ a2 < a3 ∧ a3 < a4 ∧ a4 < a5 ∧ a5 < a6 ∧ a6 < a8 ∧ a8 < a9 ∧ a9 < a10 ∧ a10 < a11 ∧ a11 < a12 ∧ a12 < a13 ∧ a13 < a14 ∧ a14 < a15 ∧ a15 < a17 ∧ a17 < a18 ∧ a18 < a19 ∧ a19 < a20 ∧ a20 < a21 ∧ a21 < a23 ∧ a23 < a24 ∧ a24 < a25) → (h' a0 = some (xOb 7 [.int 20, .int 8, .ref a2, .ref a3, .ref a4, .ref a5, .ref a6, .int 0, .ref a8, .ref a9, .ref a10, .ref a11, .ref a12, .ref a13, .ref a14, .ref a15, .int 0, .ref a17, .ref a18, .ref a19, .ref a20, .ref a21, .int 0, .ref a23, .ref a24, .ref a25]) ∧ h' a2 = some (xRi G 2 (fun _ => 0)) ∧ h' a3 = some (xRi G 2 (fun _ => 0)) ∧ h' a4 = some (xRi G 2 (upd (upd (fun _ => 0) (Int32.toNatClampNeg (0 : Int32)) (10 : Int32)) (Int32.toNatClampNeg (1 : Int32)) (10 : Int32))) ∧ h' a5 = some (xRi G 2 (fun _ => 0)) ∧ h' a6 = some (xRi G 2 (fun _ => 0)) ∧ h' a8 = some (xRi G 6 (fun _ => 0)) ∧ h' a9 = some (xRi G 6 (fun _ => 0)) ∧ h' a10 = some (xRi G 6 (fun _ => 0)) ∧ h' a11 = some (xRi G 6 (fun _ => 0)) ∧ h' a12 = some (xRi G 144 (fun _ => 0)) ∧ h' a13 = some (xRi G 144 (fun _ => 0)) ∧ h' a14 = some (xRi G 144 (fun _ => 0)) ∧ h' a15 = some (xRz G 144 (fun _ => 0)) ∧ h' a17 = some (xRi G 20 (fun _ => 0)) ∧ h' a18 = some (xRi G 20 (fun _ => 0)) ∧ h' a19 = some (xRi G 20 (fun _ => 0)) ∧ h' a20 = some (xRi G 20 (fun _ => 0)) ∧ h' a21 = some (xRi G 20 (fun _ => 0)) ∧ h' a23 = some (xRi G 3840 (fun _ => 0)) ∧ h' a24 = some (xRi G 3840 (fun _ => 0)) ∧ h' a25 = some (xRi G 24 (fun _ => 0))) → (∀ b cc, h b = some cc → b ≠ a0 → h' b = some cc) → Q none h') : xV G l mX6_init (d + 1) 21 8414 0 0 0 [.ref a0] [] h Q := by
  have hm : mkS a0 [.int 0, .int 0, .null, .null, .null, .null, .null, .int 0, .null, .null, .null, .null, .null, .null, .null, .null, .int 0, .null, .null, .null, .null, .null, .int 0, .null, .null, .null] [] h h := ⟨ha, fun q hq => absurd hq List.not_mem_nil, fun b cc hb _ => hb⟩
  refine x_aload_n dX6_init_0 rfl ?_
  refine x_objInit dX6_init_1 (by decide +kernel) (by decide +kernel) (by decide +kernel) (Nat.le_of_ble_eq_true rfl) (by omega) ?_
  refine x_aload_n dX6_init_4 rfl ?_
  refine x_bipush (v := 20) dX6_init_5 (by decide) ?_
  refine x_put 0 dX6_init_7 hm.1 rfl (by decide) (by decide +kernel) rfl rfl rfl rfl (Nat.le_of_ble_eq_true rfl) ?_
  obtain ⟨g0, f0, hm⟩ := hm.fld (k := 0) (v := .int 20) (fs' := [.int 20, .int 0, .null, .null, .null, .null, .null, .int 0, .null, .null, .null, .null, .null, .null, .null, .null, .int 0, .null, .null, .null, .null, .null, .int 0, .null, .null, .null]) rfl
  refine x_heap f0 ?_
  clear f0
  refine x_aload_n dX6_init_10 rfl ?_
  refine x_bipush (v := 8) dX6_init_11 (by decide) ?_
  refine x_put 1 dX6_init_13 hm.1 rfl (by decide) (by decide +kernel) rfl rfl rfl rfl (Nat.le_of_ble_eq_true rfl) ?_
  obtain ⟨g1, f1, hm⟩ := hm.fld (k := 1) (v := .int 8) (fs' := [.int 20, .int 8, .null, .null, .null, .null, .null, .int 0, .null, .null, .null, .null, .null, .null, .null, .null, .int 0, .null, .null, .null, .null, .null, .int 0, .null, .null, .null]) rfl
  refine x_heap f1 ?_
  clear f1
  refine x_aload_n dX6_init_16 rfl ?_
  refine x_iconst (v := 2) dX6_init_17 (by decide) ?_
  refine x_newIA (N := 2) dX6_init_18 (by decide +kernel) (by decide) (by decide) (by decide) (Nat.le_of_ble_eq_true rfl) (Nat.le_of_ble_eq_true rfl) (fun a2 t_a2 u_a2 => ?_)
  have l_a2 : a0 < a2 := t_a2 _ _ hm.1
  have T2 : xTop h a2 := fun q cc hq => by
    by_cases e0 : q = a0
    · rw [e0]; exact l_a2
    · exact t_a2 q cc (hm.2.2 q cc hq e0)
  refine x_putF 2 dX6_init_20 (xup_k (Nat.ne_of_lt (t_a2 _ _ hm.1)) hm.1) rfl (by decide) (by decide +kernel) rfl rfl rfl rfl rfl rfl (Nat.le_of_ble_eq_true rfl) ?_
  obtain ⟨h2, e2, hm⟩ := hm.step (k := 2) (c := (xRi G 2 (fun _ => 0))) (fs' := [.int 20, .int 8, .ref a2, .null, .null, .null, .null, .int 0, .null, .null, .null, .null, .null, .null, .null, .null, .int 0, .null, .null, .null, .null, .null, .int 0, .null, .null, .null]) t_a2 rfl
  refine x_heap e2 ?_
  clear e2 t_a2
  refine x_aload_n dX6_init_23 rfl ?_
  refine x_iconst (v := 2) dX6_init_24 (by decide) ?_
  refine x_newIA (N := 2) dX6_init_25 (by decide +kernel) (by decide) (by decide) (by decide) (Nat.le_of_ble_eq_true rfl) (Nat.le_of_ble_eq_true rfl) (fun a3 t_a3 u_a3 => ?_)
  have l_a3 : a2 < a3 := t_a3 _ _ (hm.2.1 _ List.mem_cons_self).1
  refine x_putF 3 dX6_init_27 (xup_k (Nat.ne_of_lt (t_a3 _ _ hm.1)) hm.1) rfl (by decide) (by decide +kernel) rfl rfl rfl rfl rfl rfl (Nat.le_of_ble_eq_true rfl) ?_
  obtain ⟨h3, e3, hm⟩ := hm.step (k := 3) (c := (xRi G 2 (fun _ => 0))) (fs' := [.int 20, .int 8, .ref a2, .ref a3, .null, .null, .null, .int 0, .null, .null, .null, .null, .null, .null, .null, .null, .int 0, .null, .null, .null, .null, .null, .int 0, .null, .null, .null]) t_a3 rfl
  refine x_heap e3 ?_
  clear e3 t_a3
  refine x_aload_n dX6_init_30 rfl ?_
  refine x_iconst (v := 2) dX6_init_31 (by decide) ?_
  refine x_newIA (N := 2) dX6_init_32 (by decide +kernel) (by decide) (by decide) (by decide) (Nat.le_of_ble_eq_true rfl) (Nat.le_of_ble_eq_true rfl) (fun a4 t_a4 u_a4 => ?_)
  have l_a4 : a3 < a4 := t_a4 _ _ (hm.2.1 _ List.mem_cons_self).1
  refine x_dup dX6_init_34 rfl ?_
  refine x_iconst (v := 0) dX6_init_35 (by decide) ?_
  refine x_bipush (v := 10) dX6_init_36 (by decide) ?_
  refine x_iast dX6_init_38 xup_s ax0 ?_
  refine x_heap xup_u ?_
  refine x_dup dX6_init_39 rfl ?_
  refine x_iconst (v := 1) dX6_init_40 (by decide) ?_
  refine x_bipush (v := 10) dX6_init_41 (by decide) ?_
  refine x_iast dX6_init_43 xup_s ax1 ?_
  refine x_heap xup_u ?_
  refine x_putF 4 dX6_init_44 (xup_k (Nat.ne_of_lt (t_a4 _ _ hm.1)) hm.1) rfl (by decide) (by decide +kernel) rfl rfl rfl rfl rfl rfl (Nat.le_of_ble_eq_true rfl) ?_
  obtain ⟨h4, e4, hm⟩ := hm.step (k := 4) (c := (xRi G 2 (upd (upd (fun _ => 0) (Int32.toNatClampNeg (0 : Int32)) (10 : Int32)) (Int32.toNatClampNeg (1 : Int32)) (10 : Int32)))) (fs' := [.int 20, .int 8, .ref a2, .ref a3, .ref a4, .null, .null, .int 0, .null, .null, .null, .null, .null, .null, .null, .null, .int 0, .null, .null, .null, .null, .null, .int 0, .null, .null, .null]) t_a4 rfl
  refine x_heap e4 ?_
  clear e4 t_a4
  refine x_aload_n dX6_init_47 rfl ?_
  refine x_iconst (v := 2) dX6_init_48 (by decide) ?_
  refine x_newIA (N := 2) dX6_init_49 (by decide +kernel) (by decide) (by decide) (by decide) (Nat.le_of_ble_eq_true rfl) (Nat.le_of_ble_eq_true rfl) (fun a5 t_a5 u_a5 => ?_)
  have l_a5 : a4 < a5 := t_a5 _ _ (hm.2.1 _ List.mem_cons_self).1
  refine x_putF 5 dX6_init_51 (xup_k (Nat.ne_of_lt (t_a5 _ _ hm.1)) hm.1) rfl (by decide) (by decide +kernel) rfl rfl rfl rfl rfl rfl (Nat.le_of_ble_eq_true rfl) ?_
  obtain ⟨h5, e5, hm⟩ := hm.step (k := 5) (c := (xRi G 2 (fun _ => 0))) (fs' := [.int 20, .int 8, .ref a2, .ref a3, .ref a4, .ref a5, .null, .int 0, .null, .null, .null, .null, .null, .null, .null, .null, .int 0, .null, .null, .null, .null, .null, .int 0, .null, .null, .null]) t_a5 rfl
  refine x_heap e5 ?_
  clear e5 t_a5
  refine x_aload_n dX6_init_54 rfl ?_
  refine x_iconst (v := 2) dX6_init_55 (by decide) ?_
  refine x_newIA (N := 2) dX6_init_56 (by decide +kernel) (by decide) (by decide) (by decide) (Nat.le_of_ble_eq_true rfl) (Nat.le_of_ble_eq_true rfl) (fun a6 t_a6 u_a6 => ?_)
  have l_a6 : a5 < a6 := t_a6 _ _ (hm.2.1 _ List.mem_cons_self).1
  refine x_putF 6 dX6_init_58 (xup_k (Nat.ne_of_lt (t_a6 _ _ hm.1)) hm.1) rfl (by decide) (by decide +kernel) rfl rfl rfl rfl rfl rfl (Nat.le_of_ble_eq_true rfl) ?_
  obtain ⟨h6, e6, hm⟩ := hm.step (k := 6) (c := (xRi G 2 (fun _ => 0))) (fs' := [.int 20, .int 8, .ref a2, .ref a3, .ref a4, .ref a5, .ref a6, .int 0, .null, .null, .null, .null, .null, .null, .null, .null, .int 0, .null, .null, .null, .null, .null, .int 0, .null, .null, .null]) t_a6 rfl
  refine x_heap e6 ?_
  clear e6 t_a6
  refine x_aload_n dX6_init_61 rfl ?_
  refine x_bipush (v := 6) dX6_init_62 (by decide) ?_
  refine x_newIA (N := 6) dX6_init_64 (by decide +kernel) (by decide) (by decide) (by decide) (Nat.le_of_ble_eq_true rfl) (Nat.le_of_ble_eq_true rfl) (fun a8 t_a8 u_a8 => ?_)
  have l_a8 : a6 < a8 := t_a8 _ _ (hm.2.1 _ List.mem_cons_self).1
  refine x_putF 8 dX6_init_66 (xup_k (Nat.ne_of_lt (t_a8 _ _ hm.1)) hm.1) rfl (by decide) (by decide +kernel) rfl rfl rfl rfl rfl rfl (Nat.le_of_ble_eq_true rfl) ?_
  obtain ⟨h8, e8, hm⟩ := hm.step (k := 8) (c := (xRi G 6 (fun _ => 0))) (fs' := [.int 20, .int 8, .ref a2, .ref a3, .ref a4, .ref a5, .ref a6, .int 0, .ref a8, .null, .null, .null, .null, .null, .null, .null, .int 0, .null, .null, .null, .null, .null, .int 0, .null, .null, .null]) t_a8 rfl
  refine x_heap e8 ?_
  clear e8 t_a8
  refine x_aload_n dX6_init_69 rfl ?_
  refine x_bipush (v := 6) dX6_init_70 (by decide) ?_
  refine x_newIA (N := 6) dX6_init_72 (by decide +kernel) (by decide) (by decide) (by decide) (Nat.le_of_ble_eq_true rfl) (Nat.le_of_ble_eq_true rfl) (fun a9 t_a9 u_a9 => ?_)
  have l_a9 : a8 < a9 := t_a9 _ _ (hm.2.1 _ List.mem_cons_self).1
  refine x_putF 9 dX6_init_74 (xup_k (Nat.ne_of_lt (t_a9 _ _ hm.1)) hm.1) rfl (by decide) (by decide +kernel) rfl rfl rfl rfl rfl rfl (Nat.le_of_ble_eq_true rfl) ?_
  obtain ⟨h9, e9, hm⟩ := hm.step (k := 9) (c := (xRi G 6 (fun _ => 0))) (fs' := [.int 20, .int 8, .ref a2, .ref a3, .ref a4, .ref a5, .ref a6, .int 0, .ref a8, .ref a9, .null, .null, .null, .null, .null, .null, .int 0, .null, .null, .null, .null, .null, .int 0, .null, .null, .null]) t_a9 rfl
  refine x_heap e9 ?_
  clear e9 t_a9
  refine x_aload_n dX6_init_77 rfl ?_
  refine x_bipush (v := 6) dX6_init_78 (by decide) ?_
  refine x_newIA (N := 6) dX6_init_80 (by decide +kernel) (by decide) (by decide) (by decide) (Nat.le_of_ble_eq_true rfl) (Nat.le_of_ble_eq_true rfl) (fun a10 t_a10 u_a10 => ?_)
  have l_a10 : a9 < a10 := t_a10 _ _ (hm.2.1 _ List.mem_cons_self).1
  refine x_putF 10 dX6_init_82 (xup_k (Nat.ne_of_lt (t_a10 _ _ hm.1)) hm.1) rfl (by decide) (by decide +kernel) rfl rfl rfl rfl rfl rfl (Nat.le_of_ble_eq_true rfl) ?_
  obtain ⟨h10, e10, hm⟩ := hm.step (k := 10) (c := (xRi G 6 (fun _ => 0))) (fs' := [.int 20, .int 8, .ref a2, .ref a3, .ref a4, .ref a5, .ref a6, .int 0, .ref a8, .ref a9, .ref a10, .null, .null, .null, .null, .null, .int 0, .null, .null, .null, .null, .null, .int 0, .null, .null, .null]) t_a10 rfl
  refine x_heap e10 ?_
  clear e10 t_a10
  refine x_aload_n dX6_init_85 rfl ?_
  refine x_bipush (v := 6) dX6_init_86 (by decide) ?_
  refine x_newIA (N := 6) dX6_init_88 (by decide +kernel) (by decide) (by decide) (by decide) (Nat.le_of_ble_eq_true rfl) (Nat.le_of_ble_eq_true rfl) (fun a11 t_a11 u_a11 => ?_)
  have l_a11 : a10 < a11 := t_a11 _ _ (hm.2.1 _ List.mem_cons_self).1
  refine x_putF 11 dX6_init_90 (xup_k (Nat.ne_of_lt (t_a11 _ _ hm.1)) hm.1) rfl (by decide) (by decide +kernel) rfl rfl rfl rfl rfl rfl (Nat.le_of_ble_eq_true rfl) ?_
  obtain ⟨h11, e11, hm⟩ := hm.step (k := 11) (c := (xRi G 6 (fun _ => 0))) (fs' := [.int 20, .int 8, .ref a2, .ref a3, .ref a4, .ref a5, .ref a6, .int 0, .ref a8, .ref a9, .ref a10, .ref a11, .null, .null, .null, .null, .int 0, .null, .null, .null, .null, .null, .int 0, .null, .null, .null]) t_a11 rfl
  refine x_heap e11 ?_
  clear e11 t_a11
  refine x_aload_n dX6_init_93 rfl ?_
  refine x_sipush (v := 144) dX6_init_94 (by decide) ?_
  refine x_newIA (N := 144) dX6_init_97 (by decide +kernel) (by decide) (by decide) (by decide) (Nat.le_of_ble_eq_true rfl) (Nat.le_of_ble_eq_true rfl) (fun a12 t_a12 u_a12 => ?_)
  have l_a12 : a11 < a12 := t_a12 _ _ (hm.2.1 _ List.mem_cons_self).1
  refine x_putF 12 dX6_init_99 (xup_k (Nat.ne_of_lt (t_a12 _ _ hm.1)) hm.1) rfl (by decide) (by decide +kernel) rfl rfl rfl rfl rfl rfl (Nat.le_of_ble_eq_true rfl) ?_
  obtain ⟨h12, e12, hm⟩ := hm.step (k := 12) (c := (xRi G 144 (fun _ => 0))) (fs' := [.int 20, .int 8, .ref a2, .ref a3, .ref a4, .ref a5, .ref a6, .int 0, .ref a8, .ref a9, .ref a10, .ref a11, .ref a12, .null, .null, .null, .int 0, .null, .null, .null, .null, .null, .int 0, .null, .null, .null]) t_a12 rfl
  refine x_heap e12 ?_
  clear e12 t_a12
  refine x_aload_n dX6_init_102 rfl ?_
  refine x_sipush (v := 144) dX6_init_103 (by decide) ?_
  refine x_newIA (N := 144) dX6_init_106 (by decide +kernel) (by decide) (by decide) (by decide) (Nat.le_of_ble_eq_true rfl) (Nat.le_of_ble_eq_true rfl) (fun a13 t_a13 u_a13 => ?_)
  have l_a13 : a12 < a13 := t_a13 _ _ (hm.2.1 _ List.mem_cons_self).1
  refine x_putF 13 dX6_init_108 (xup_k (Nat.ne_of_lt (t_a13 _ _ hm.1)) hm.1) rfl (by decide) (by decide +kernel) rfl rfl rfl rfl rfl rfl (Nat.le_of_ble_eq_true rfl) ?_
  obtain ⟨h13, e13, hm⟩ := hm.step (k := 13) (c := (xRi G 144 (fun _ => 0))) (fs' := [.int 20, .int 8, .ref a2, .ref a3, .ref a4, .ref a5, .ref a6, .int 0, .ref a8, .ref a9, .ref a10, .ref a11, .ref a12, .ref a13, .null, .null, .int 0, .null, .null, .null, .null, .null, .int 0, .null, .null, .null]) t_a13 rfl
  refine x_heap e13 ?_
  clear e13 t_a13
  refine x_aload_n dX6_init_111 rfl ?_
  refine x_sipush (v := 144) dX6_init_112 (by decide) ?_
  refine x_newIA (N := 144) dX6_init_115 (by decide +kernel) (by decide) (by decide) (by decide) (Nat.le_of_ble_eq_true rfl) (Nat.le_of_ble_eq_true rfl) (fun a14 t_a14 u_a14 => ?_)
  have l_a14 : a13 < a14 := t_a14 _ _ (hm.2.1 _ List.mem_cons_self).1
  refine x_putF 14 dX6_init_117 (xup_k (Nat.ne_of_lt (t_a14 _ _ hm.1)) hm.1) rfl (by decide) (by decide +kernel) rfl rfl rfl rfl rfl rfl (Nat.le_of_ble_eq_true rfl) ?_
  obtain ⟨h14, e14, hm⟩ := hm.step (k := 14) (c := (xRi G 144 (fun _ => 0))) (fs' := [.int 20, .int 8, .ref a2, .ref a3, .ref a4, .ref a5, .ref a6, .int 0, .ref a8, .ref a9, .ref a10, .ref a11, .ref a12, .ref a13, .ref a14, .null, .int 0, .null, .null, .null, .null, .null, .int 0, .null, .null, .null]) t_a14 rfl
  refine x_heap e14 ?_
  clear e14 t_a14
  refine x_aload_n dX6_init_120 rfl ?_
  refine x_sipush (v := 144) dX6_init_121 (by decide) ?_
  refine x_newZA (N := 144) dX6_init_124 (by decide +kernel) (by decide) (by decide) (by decide) (Nat.le_of_ble_eq_true rfl) (Nat.le_of_ble_eq_true rfl) (fun a15 t_a15 u_a15 => ?_)
  have l_a15 : a14 < a15 := t_a15 _ _ (hm.2.1 _ List.mem_cons_self).1
  refine x_putF 15 dX6_init_126 (xup_k (Nat.ne_of_lt (t_a15 _ _ hm.1)) hm.1) rfl (by decide) (by decide +kernel) rfl rfl rfl rfl rfl rfl (Nat.le_of_ble_eq_true rfl) ?_
  obtain ⟨h15, e15, hm⟩ := hm.step (k := 15) (c := (xRz G 144 (fun _ => 0))) (fs' := [.int 20, .int 8, .ref a2, .ref a3, .ref a4, .ref a5, .ref a6, .int 0, .ref a8, .ref a9, .ref a10, .ref a11, .ref a12, .ref a13, .ref a14, .ref a15, .int 0, .null, .null, .null, .null, .null, .int 0, .null, .null, .null]) t_a15 rfl
  refine x_heap e15 ?_
  clear e15 t_a15
  refine x_aload_n dX6_init_129 rfl ?_
  refine x_bipush (v := 20) dX6_init_130 (by decide) ?_
  refine x_newIA (N := 20) dX6_init_132 (by decide +kernel) (by decide) (by decide) (by decide) (Nat.le_of_ble_eq_true rfl) (Nat.le_of_ble_eq_true rfl) (fun a17 t_a17 u_a17 => ?_)
  have l_a17 : a15 < a17 := t_a17 _ _ (hm.2.1 _ List.mem_cons_self).1
  refine x_putF 17 dX6_init_134 (xup_k (Nat.ne_of_lt (t_a17 _ _ hm.1)) hm.1) rfl (by decide) (by decide +kernel) rfl rfl rfl rfl rfl rfl (Nat.le_of_ble_eq_true rfl) ?_
  obtain ⟨h17, e17, hm⟩ := hm.step (k := 17) (c := (xRi G 20 (fun _ => 0))) (fs' := [.int 20, .int 8, .ref a2, .ref a3, .ref a4, .ref a5, .ref a6, .int 0, .ref a8, .ref a9, .ref a10, .ref a11, .ref a12, .ref a13, .ref a14, .ref a15, .int 0, .ref a17, .null, .null, .null, .null, .int 0, .null, .null, .null]) t_a17 rfl
  refine x_heap e17 ?_
  clear e17 t_a17
  refine x_aload_n dX6_init_137 rfl ?_
  refine x_bipush (v := 20) dX6_init_138 (by decide) ?_
  refine x_newIA (N := 20) dX6_init_140 (by decide +kernel) (by decide) (by decide) (by decide) (Nat.le_of_ble_eq_true rfl) (Nat.le_of_ble_eq_true rfl) (fun a18 t_a18 u_a18 => ?_)
  have l_a18 : a17 < a18 := t_a18 _ _ (hm.2.1 _ List.mem_cons_self).1
  refine x_putF 18 dX6_init_142 (xup_k (Nat.ne_of_lt (t_a18 _ _ hm.1)) hm.1) rfl (by decide) (by decide +kernel) rfl rfl rfl rfl rfl rfl (Nat.le_of_ble_eq_true rfl) ?_
  obtain ⟨h18, e18, hm⟩ := hm.step (k := 18) (c := (xRi G 20 (fun _ => 0))) (fs' := [.int 20, .int 8, .ref a2, .ref a3, .ref a4, .ref a5, .ref a6, .int 0, .ref a8, .ref a9, .ref a10, .ref a11, .ref a12, .ref a13, .ref a14, .ref a15, .int 0, .ref a17, .ref a18, .null, .null, .null, .int 0, .null, .null, .null]) t_a18 rfl
  refine x_heap e18 ?_
  clear e18 t_a18
  refine x_aload_n dX6_init_145 rfl ?_
  refine x_bipush (v := 20) dX6_init_146 (by decide) ?_
  refine x_newIA (N := 20) dX6_init_148 (by decide +kernel) (by decide) (by decide) (by decide) (Nat.le_of_ble_eq_true rfl) (Nat.le_of_ble_eq_true rfl) (fun a19 t_a19 u_a19 => ?_)
  have l_a19 : a18 < a19 := t_a19 _ _ (hm.2.1 _ List.mem_cons_self).1
  refine x_putF 19 dX6_init_150 (xup_k (Nat.ne_of_lt (t_a19 _ _ hm.1)) hm.1) rfl (by decide) (by decide +kernel) rfl rfl rfl rfl rfl rfl (Nat.le_of_ble_eq_true rfl) ?_
  obtain ⟨h19, e19, hm⟩ := hm.step (k := 19) (c := (xRi G 20 (fun _ => 0))) (fs' := [.int 20, .int 8, .ref a2, .ref a3, .ref a4, .ref a5, .ref a6, .int 0, .ref a8, .ref a9, .ref a10, .ref a11, .ref a12, .ref a13, .ref a14, .ref a15, .int 0, .ref a17, .ref a18, .ref a19, .null, .null, .int 0, .null, .null, .null]) t_a19 rfl
  refine x_heap e19 ?_
  clear e19 t_a19
  refine x_aload_n dX6_init_153 rfl ?_
  refine x_bipush (v := 20) dX6_init_154 (by decide) ?_
  refine x_newIA (N := 20) dX6_init_156 (by decide +kernel) (by decide) (by decide) (by decide) (Nat.le_of_ble_eq_true rfl) (Nat.le_of_ble_eq_true rfl) (fun a20 t_a20 u_a20 => ?_)
  have l_a20 : a19 < a20 := t_a20 _ _ (hm.2.1 _ List.mem_cons_self).1
  refine x_putF 20 dX6_init_158 (xup_k (Nat.ne_of_lt (t_a20 _ _ hm.1)) hm.1) rfl (by decide) (by decide +kernel) rfl rfl rfl rfl rfl rfl (Nat.le_of_ble_eq_true rfl) ?_
  obtain ⟨h20, e20, hm⟩ := hm.step (k := 20) (c := (xRi G 20 (fun _ => 0))) (fs' := [.int 20, .int 8, .ref a2, .ref a3, .ref a4, .ref a5, .ref a6, .int 0, .ref a8, .ref a9, .ref a10, .ref a11, .ref a12, .ref a13, .ref a14, .ref a15, .int 0, .ref a17, .ref a18, .ref a19, .ref a20, .null, .int 0, .null, .null, .null]) t_a20 rfl
  refine x_heap e20 ?_
  clear e20 t_a20
  refine x_aload_n dX6_init_161 rfl ?_
  refine x_bipush (v := 20) dX6_init_162 (by decide) ?_
  refine x_newIA (N := 20) dX6_init_164 (by decide +kernel) (by decide) (by decide) (by decide) (Nat.le_of_ble_eq_true rfl) (Nat.le_of_ble_eq_true rfl) (fun a21 t_a21 u_a21 => ?_)
  have l_a21 : a20 < a21 := t_a21 _ _ (hm.2.1 _ List.mem_cons_self).1
  refine x_putF 21 dX6_init_166 (xup_k (Nat.ne_of_lt (t_a21 _ _ hm.1)) hm.1) rfl (by decide) (by decide +kernel) rfl rfl rfl rfl rfl rfl (Nat.le_of_ble_eq_true rfl) ?_
  obtain ⟨h21, e21, hm⟩ := hm.step (k := 21) (c := (xRi G 20 (fun _ => 0))) (fs' := [.int 20, .int 8, .ref a2, .ref a3, .ref a4, .ref a5, .ref a6, .int 0, .ref a8, .ref a9, .ref a10, .ref a11, .ref a12, .ref a13, .ref a14, .ref a15, .int 0, .ref a17, .ref a18, .ref a19, .ref a20, .ref a21, .int 0, .null, .null, .null]) t_a21 rfl
  refine x_heap e21 ?_
  clear e21 t_a21
  refine x_aload_n dX6_init_169 rfl ?_
  refine x_sipush (v := 3840) dX6_init_170 (by decide) ?_
  refine x_newIA (N := 3840) dX6_init_173 (by decide +kernel) (by decide) (by decide) (by decide) (Nat.le_of_ble_eq_true rfl) (Nat.le_of_ble_eq_true rfl) (fun a23 t_a23 u_a23 => ?_)
  have l_a23 : a21 < a23 := t_a23 _ _ (hm.2.1 _ List.mem_cons_self).1
  refine x_putF 23 dX6_init_175 (xup_k (Nat.ne_of_lt (t_a23 _ _ hm.1)) hm.1) rfl (by decide) (by decide +kernel) rfl rfl rfl rfl rfl rfl (Nat.le_of_ble_eq_true rfl) ?_
  obtain ⟨h23, e23, hm⟩ := hm.step (k := 23) (c := (xRi G 3840 (fun _ => 0))) (fs' := [.int 20, .int 8, .ref a2, .ref a3, .ref a4, .ref a5, .ref a6, .int 0, .ref a8, .ref a9, .ref a10, .ref a11, .ref a12, .ref a13, .ref a14, .ref a15, .int 0, .ref a17, .ref a18, .ref a19, .ref a20, .ref a21, .int 0, .ref a23, .null, .null]) t_a23 rfl
  refine x_heap e23 ?_
  clear e23 t_a23
  refine x_aload_n dX6_init_178 rfl ?_
  refine x_sipush (v := 3840) dX6_init_179 (by decide) ?_
  refine x_newIA (N := 3840) dX6_init_182 (by decide +kernel) (by decide) (by decide) (by decide) (Nat.le_of_ble_eq_true rfl) (Nat.le_of_ble_eq_true rfl) (fun a24 t_a24 u_a24 => ?_)
  have l_a24 : a23 < a24 := t_a24 _ _ (hm.2.1 _ List.mem_cons_self).1
  refine x_putF 24 dX6_init_184 (xup_k (Nat.ne_of_lt (t_a24 _ _ hm.1)) hm.1) rfl (by decide) (by decide +kernel) rfl rfl rfl rfl rfl rfl (Nat.le_of_ble_eq_true rfl) ?_
  obtain ⟨h24, e24, hm⟩ := hm.step (k := 24) (c := (xRi G 3840 (fun _ => 0))) (fs' := [.int 20, .int 8, .ref a2, .ref a3, .ref a4, .ref a5, .ref a6, .int 0, .ref a8, .ref a9, .ref a10, .ref a11, .ref a12, .ref a13, .ref a14, .ref a15, .int 0, .ref a17, .ref a18, .ref a19, .ref a20, .ref a21, .int 0, .ref a23, .ref a24, .null]) t_a24 rfl
  refine x_heap e24 ?_
  clear e24 t_a24
  refine x_aload_n dX6_init_187 rfl ?_
  refine x_bipush (v := 24) dX6_init_188 (by decide) ?_
  refine x_newIA (N := 24) dX6_init_190 (by decide +kernel) (by decide) (by decide) (by decide) (Nat.le_of_ble_eq_true rfl) (Nat.le_of_ble_eq_true rfl) (fun a25 t_a25 u_a25 => ?_)
  have l_a25 : a24 < a25 := t_a25 _ _ (hm.2.1 _ List.mem_cons_self).1
  refine x_putF 25 dX6_init_192 (xup_k (Nat.ne_of_lt (t_a25 _ _ hm.1)) hm.1) rfl (by decide) (by decide +kernel) rfl rfl rfl rfl rfl rfl (Nat.le_of_ble_eq_true rfl) ?_
  obtain ⟨h25, e25, hm⟩ := hm.step (k := 25) (c := (xRi G 24 (fun _ => 0))) (fs' := [.int 20, .int 8, .ref a2, .ref a3, .ref a4, .ref a5, .ref a6, .int 0, .ref a8, .ref a9, .ref a10, .ref a11, .ref a12, .ref a13, .ref a14, .ref a15, .int 0, .ref a17, .ref a18, .ref a19, .ref a20, .ref a21, .int 0, .ref a23, .ref a24, .ref a25]) t_a25 rfl
  refine x_heap e25 ?_
  clear e25 t_a25
  refine x_aload_n dX6_init_195 rfl ?_
  refine x_iconst (v := 0) dX6_init_196 (by decide) ?_
  refine x_put 7 dX6_init_197 hm.1 rfl (by decide) (by decide +kernel) rfl rfl rfl rfl (Nat.le_of_ble_eq_true rfl) ?_
  obtain ⟨g7, f7, hm⟩ := hm.fld (k := 7) (v := .int 0) (fs' := [.int 20, .int 8, .ref a2, .ref a3, .ref a4, .ref a5, .ref a6, .int 0, .ref a8, .ref a9, .ref a10, .ref a11, .ref a12, .ref a13, .ref a14, .ref a15, .int 0, .ref a17, .ref a18, .ref a19, .ref a20, .ref a21, .int 0, .ref a23, .ref a24, .ref a25]) rfl
  refine x_heap f7 ?_
  clear f7
  exact x_vret dX6_init_200 rfl (hQ _ a2 a3 a4 a5 a6 a8 a9 a10 a11 a12 a13 a14 a15 a17 a18 a19 a20 a21 a23 a24 a25 T2 u_a2 ⟨l_a2, l_a3, l_a4, l_a5, l_a6, l_a8, l_a9, l_a10, l_a11, l_a12, l_a13, l_a14, l_a15, l_a17, l_a18, l_a19, l_a20, l_a21, l_a23, l_a24, l_a25⟩ ⟨hm.1, (hm.2.1 (a2, _) (List.mem_of_getElem? (i := 20) rfl)).1, (hm.2.1 (a3, _) (List.mem_of_getElem? (i := 19) rfl)).1, (hm.2.1 (a4, _) (List.mem_of_getElem? (i := 18) rfl)).1, (hm.2.1 (a5, _) (List.mem_of_getElem? (i := 17) rfl)).1, (hm.2.1 (a6, _) (List.mem_of_getElem? (i := 16) rfl)).1, (hm.2.1 (a8, _) (List.mem_of_getElem? (i := 15) rfl)).1, (hm.2.1 (a9, _) (List.mem_of_getElem? (i := 14) rfl)).1, (hm.2.1 (a10, _) (List.mem_of_getElem? (i := 13) rfl)).1, (hm.2.1 (a11, _) (List.mem_of_getElem? (i := 12) rfl)).1, (hm.2.1 (a12, _) (List.mem_of_getElem? (i := 11) rfl)).1, (hm.2.1 (a13, _) (List.mem_of_getElem? (i := 10) rfl)).1, (hm.2.1 (a14, _) (List.mem_of_getElem? (i := 9) rfl)).1, (hm.2.1 (a15, _) (List.mem_of_getElem? (i := 8) rfl)).1, (hm.2.1 (a17, _) (List.mem_of_getElem? (i := 7) rfl)).1, (hm.2.1 (a18, _) (List.mem_of_getElem? (i := 6) rfl)).1, (hm.2.1 (a19, _) (List.mem_of_getElem? (i := 5) rfl)).1, (hm.2.1 (a20, _) (List.mem_of_getElem? (i := 4) rfl)).1, (hm.2.1 (a21, _) (List.mem_of_getElem? (i := 3) rfl)).1, (hm.2.1 (a23, _) (List.mem_of_getElem? (i := 2) rfl)).1, (hm.2.1 (a24, _) (List.mem_of_getElem? (i := 1) rfl)).1, (hm.2.1 (a25, _) (List.mem_of_getElem? (i := 0) rfl)).1⟩ hm.2.2) (Nat.le_of_ble_eq_true rfl) (Nat.le_of_ble_eq_true rfl)
