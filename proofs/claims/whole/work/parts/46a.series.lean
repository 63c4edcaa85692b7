set_option maxHeartbeats 4000000 in
set_option maxRecDepth 100000 in
theorem kX4_init {G : xG} {l : Launch} {d : Nat} {h : xH} {Q : Option Value → xH → Prop} {a pg : Nat} (ha : h a = some (xOb 5 [.null, .null, .null])) (hQ : ∀ (h' : xH) (b6 b7 : Nat), xTop h b6 → xB G ≤ b6 → a < b6 → b6 < b7 → (h' a = some (xOb 5 [.ref pg, .ref b6, .ref b7]) ∧ h' b6 = some (xRi G 640 (fun _ => 0)) ∧ h' b7 = some (xRi G 640 (fun _ => 0))) → (∀ b, b ≠ a → b ≠ b6 → b ≠ b7 → h' b = h b) → Q none h') : xV G l mX4_init (d + 1) 2 1280 0 0 0 [.ref a, .ref pg] [] h Q := by
  refine x_aload_n dX4_init_0 rfl ?_
  refine x_objInit dX4_init_1 (by decide +kernel) (by decide +kernel) (by decide +kernel) (Nat.le_of_ble_eq_true rfl) (by omega) ?_
  refine x_aload_n dX4_init_4 rfl ?_
  refine x_sipush (v := 640) dX4_init_5 (by decide) ?_
  refine x_newIA (N := 640) dX4_init_8 (by decide +kernel) (by decide) (by decide) (by decide) (Nat.le_of_ble_eq_true rfl) (Nat.le_of_ble_eq_true rfl) (fun b6 t_b6 u_b6 => ?_)
  have l_b6 : a < b6 := t_b6 _ _ ha
  refine x_putF 1 dX4_init_10 (xup_k (by omega) ha) rfl (by decide) (by decide +kernel) rfl rfl rfl rfl rfl rfl (Nat.le_of_ble_eq_true rfl) ?_
  refine x_aload_n dX4_init_13 rfl ?_
  refine x_sipush (v := 640) dX4_init_14 (by decide) ?_
  refine x_newIA (N := 640) dX4_init_17 (by decide +kernel) (by decide) (by decide) (by decide) (Nat.le_of_ble_eq_true rfl) (Nat.le_of_ble_eq_true rfl) (fun b7 t_b7 u_b7 => ?_)
  have l_b7 : b6 < b7 := t_b7 _ _ (xup_k (by omega) xup_s)
  refine x_putF 2 dX4_init_19 (xup_k (by omega) xup_s) rfl (by decide) (by decide +kernel) rfl rfl rfl rfl rfl rfl (Nat.le_of_ble_eq_true rfl) ?_
  refine x_aload_n dX4_init_22 rfl ?_
  refine x_aload_n dX4_init_23 rfl ?_
  refine x_putF 0 dX4_init_24 xup_s rfl (by decide) (by decide +kernel) rfl rfl rfl rfl rfl rfl (Nat.le_of_ble_eq_true rfl) ?_
  refine x_heap xup_u ?_
  exact x_vret dX4_init_27 rfl (hQ _ b6 b7 t_b6 u_b6 l_b6 l_b7 ⟨xup_s, (xup_k (by omega) (xup_k (by omega) (xup_k (by omega) xup_s))), (xup_k (by omega) xup_s)⟩ (fun b e0 e6 e7 => by rw [xup_n e0, xup_n e7, xup_n e0, xup_n e6])) (Nat.le_of_ble_eq_true rfl) (Nat.le_of_ble_eq_true rfl)
set_option maxHeartbeats 4000000 in
set_option maxRecDepth 100000 in
theorem kX3_init {G : xG} {l : Launch} {d : Nat} {h : xH} {Q : Option Value → xH → Prop} {b0 pg : Nat} {x y z : Int32} (ha : h b0 = some (xOb 4 [.int 0, .int 0, .int 0, .int 0, .int 0, .null, .null, .null, .null, .null, .null])) (hQ : ∀ (h' : xH) (b1 b2 b3 b4 b5 b6 b7 : Nat), xTop h b1 → xB G ≤ b1 → (b0 < b1 ∧ b1 < b2 ∧ b2 < b3 ∧ b3 < b4 ∧ b4 < b5 ∧ b5 < b6 ∧ b6 < b7) → (h' b0 = some (xOb 4 [.int x, .int y, .int z, .int 0, .int 1, .ref b1, .ref b2, .ref b3, .ref b4, .ref pg, .ref b5]) ∧ h' b1 = some (xRi G 24 (fun _ => 0)) ∧ h' b2 = some (xRi G 24 (fun _ => 0)) ∧ h' b3 = some (xRi G 24 (fun _ => 0)) ∧ h' b4 = some (xRz G 24 (fun _ => 0)) ∧ h' b5 = some (xOb 5 [.ref pg, .ref b6, .ref b7]) ∧ h' b6 = some (xRi G 640 (fun _ => 0)) ∧ h' b7 = some (xRi G 640 (fun _ => 0))) → (∀ b cc, h b = some cc → b ≠ b0 → h' b = some cc) → Q none h') : xV G l mX3_init (d + 2) 7 1379 0 0 0 [.ref b0, .ref pg, .int x, .int y, .int z] [] h Q := by
  refine x_aload_n dX3_init_0 rfl ?_
  refine x_objInit dX3_init_1 (by decide +kernel) (by decide +kernel) (by decide +kernel) (Nat.le_of_ble_eq_true rfl) (by omega) ?_
  refine x_aload_n dX3_init_4 rfl ?_
  refine x_iconst (v := 1) dX3_init_5 (by decide) ?_
  refine x_put 4 dX3_init_6 ha rfl (by decide) (by decide +kernel) rfl rfl rfl rfl (Nat.le_of_ble_eq_true rfl) ?_
  refine x_aload_n dX3_init_9 rfl ?_
  refine x_bipush (v := 24) dX3_init_10 (by decide) ?_
  refine x_newIA (N := 24) dX3_init_12 (by decide +kernel) (by decide) (by decide) (by decide) (Nat.le_of_ble_eq_true rfl) (Nat.le_of_ble_eq_true rfl) (fun b1 t_b1 u_b1 => ?_)
  have l_b1 : b0 < b1 := t_b1 _ _ xup_s
  refine x_putF 5 dX3_init_14 (xup_k (by omega) xup_s) rfl (by decide) (by decide +kernel) rfl rfl rfl rfl rfl rfl (Nat.le_of_ble_eq_true rfl) ?_
  refine x_aload_n dX3_init_17 rfl ?_
  refine x_bipush (v := 24) dX3_init_18 (by decide) ?_
  refine x_newIA (N := 24) dX3_init_20 (by decide +kernel) (by decide) (by decide) (by decide) (Nat.le_of_ble_eq_true rfl) (Nat.le_of_ble_eq_true rfl) (fun b2 t_b2 u_b2 => ?_)
  have l_b2 : b1 < b2 := t_b2 _ _ (xup_k (by omega) xup_s)
  refine x_putF 6 dX3_init_22 (xup_k (by omega) xup_s) rfl (by decide) (by decide +kernel) rfl rfl rfl rfl rfl rfl (Nat.le_of_ble_eq_true rfl) ?_
  refine x_aload_n dX3_init_25 rfl ?_
  refine x_bipush (v := 24) dX3_init_26 (by decide) ?_
  refine x_newIA (N := 24) dX3_init_28 (by decide +kernel) (by decide) (by decide) (by decide) (Nat.le_of_ble_eq_true rfl) (Nat.le_of_ble_eq_true rfl) (fun b3 t_b3 u_b3 => ?_)
  have l_b3 : b2 < b3 := t_b3 _ _ (xup_k (by omega) xup_s)
  refine x_putF 7 dX3_init_30 (xup_k (by omega) xup_s) rfl (by decide) (by decide +kernel) rfl rfl rfl rfl rfl rfl (Nat.le_of_ble_eq_true rfl) ?_
  refine x_aload_n dX3_init_33 rfl ?_
  refine x_bipush (v := 24) dX3_init_34 (by decide) ?_
  refine x_newZA (N := 24) dX3_init_36 (by decide +kernel) (by decide) (by decide) (by decide) (Nat.le_of_ble_eq_true rfl) (Nat.le_of_ble_eq_true rfl) (fun b4 t_b4 u_b4 => ?_)
  have l_b4 : b3 < b4 := t_b4 _ _ (xup_k (by omega) xup_s)
  refine x_putF 8 dX3_init_38 (xup_k (by omega) xup_s) rfl (by decide) (by decide +kernel) rfl rfl rfl rfl rfl rfl (Nat.le_of_ble_eq_true rfl) ?_
  refine x_aload_n dX3_init_41 rfl ?_
  refine x_aload_n dX3_init_42 rfl ?_
  refine x_putF 9 dX3_init_43 xup_s rfl (by decide) (by decide +kernel) rfl rfl rfl rfl rfl rfl (Nat.le_of_ble_eq_true rfl) ?_
  refine x_heap xup_u ?_
  refine x_aload_n dX3_init_46 rfl ?_
  refine x_iload_n dX3_init_47 rfl ?_
  refine x_put 0 dX3_init_48 xup_s rfl (by decide) (by decide +kernel) rfl rfl rfl rfl (Nat.le_of_ble_eq_true rfl) ?_
  refine x_heap xup_u ?_
  refine x_aload_n dX3_init_51 rfl ?_
  refine x_iload_n dX3_init_52 rfl ?_
  refine x_put 1 dX3_init_53 xup_s rfl (by decide) (by decide +kernel) rfl rfl rfl rfl (Nat.le_of_ble_eq_true rfl) ?_
  refine x_heap xup_u ?_
  refine x_aload_n dX3_init_56 rfl ?_
  refine x_iload dX3_init_57 rfl ?_
  refine x_put 2 dX3_init_59 xup_s rfl (by decide) (by decide +kernel) rfl rfl rfl rfl (Nat.le_of_ble_eq_true rfl) ?_
  refine x_heap xup_u ?_
  refine x_aload_n dX3_init_62 rfl ?_
  refine x_newA (ci := 5) (fs := [.null, .null, .null]) dX3_init_63 rfl (by decide +kernel) (by decide +kernel) (by decide +kernel) tyX4_ok (fun j hj => by rcases (show j = 0 ∨ j = 1 ∨ j = 2 by omega) with rfl | rfl | rfl <;> rfl) (Nat.le_of_ble_eq_true rfl) (Nat.le_of_ble_eq_true rfl) (fun b5 t_b5 u_b5 => ?_)
  have l_b5 : b4 < b5 := t_b5 _ _ (xup_k (by omega) xup_s)
  refine x_dup dX3_init_66 rfl ?_
  refine x_aload_n dX3_init_67 rfl ?_
  refine x_callI (M' := mX4_init) (mc' := 2) (ms' := 1280) (As := [.ref pg]) dX3_init_68 gX3_init_X4_init (by decide +kernel) (by decide +kernel) (by decide +kernel) rfl rfl okX4_init rfl rfl (Nat.le_of_ble_eq_true rfl) (Nat.le_of_ble_eq_true rfl) (Nat.le_refl _) (Nat.le_of_ble_eq_true rfl) (Nat.le_of_ble_eq_true rfl) ?_
  refine kX4_init xup_s (fun h1 b6 b7 t_b6 u_b6 l_b6 l_b7 hS1 hF1 => ?_)
  have g_b0 := (hF1 b0 (by omega) (by omega) (by omega)).trans (xup_k (by omega) xup_s)
  have g_b1 := (hF1 b1 (by omega) (by omega) (by omega)).trans (xup_k (by omega) (xup_k (by omega) (xup_k (by omega) (xup_k (by omega) (xup_k (by omega) (xup_k (by omega) (xup_k (by omega) (xup_k (by omega) xup_s))))))))
  have g_b2 := (hF1 b2 (by omega) (by omega) (by omega)).trans (xup_k (by omega) (xup_k (by omega) (xup_k (by omega) (xup_k (by omega) (xup_k (by omega) (xup_k (by omega) xup_s))))))
  have g_b3 := (hF1 b3 (by omega) (by omega) (by omega)).trans (xup_k (by omega) (xup_k (by omega) (xup_k (by omega) (xup_k (by omega) xup_s))))
  have g_b4 := (hF1 b4 (by omega) (by omega) (by omega)).trans (xup_k (by omega) (xup_k (by omega) xup_s))
  show xV _ _ _ _ _ _ _ _ _ _ _ _ _
  refine x_putF 10 dX3_init_71 g_b0 rfl (by decide) (by decide +kernel) rfl rfl rfl rfl rfl rfl (Nat.le_of_ble_eq_true rfl) ?_
  exact x_vret dX3_init_74 rfl (hQ _ b1 b2 b3 b4 b5 b6 b7 t_b1.of u_b1 ⟨l_b1, l_b2, l_b3, l_b4, l_b5, l_b6, l_b7⟩ ⟨xup_s, (xup_k (by omega) g_b1), (xup_k (by omega) g_b2), (xup_k (by omega) g_b3), (xup_k (by omega) g_b4), (xup_k (by omega) hS1.1), (xup_k (by omega) hS1.2.1), (xup_k (by omega) hS1.2.2)⟩ (fun b cc hb e0 => by
      have q1 := t_b1.of b _ hb
      rw [xup_n e0, hF1 b (by omega) (by omega) (by omega), xup_n (show b ≠ b5 by omega), xup_n e0, xup_n (show b ≠ b4 by omega), xup_n e0, xup_n (show b ≠ b3 by omega), xup_n e0, xup_n (show b ≠ b2 by omega), xup_n e0, xup_n (show b ≠ b1 by omega), xup_n e0]
      exact hb)) (Nat.le_of_ble_eq_true rfl) (Nat.le_of_ble_eq_true rfl)
set_option maxHeartbeats 4000000 in
set_option maxRecDepth 100000 in
theorem kJx4a65c_grow_92f84 {G : xG} {l : Launch} {d : Nat} {h : xH} {Q : Option Value → xH → Prop} {al : Nat} {md : Int32} (hal : h al = some (xAo (xT3 G) md 0)) (hQ : ∀ ed : Nat, xTop h ed → xB G ≤ ed → Q (some (.ref ed)) (xup (xup h ed (xRo G 10 (fun _ => none))) al (xAo ed md 0))) : xV G l mJx4a65c_grow_92f84 (d + 1) 1 10 0 0 0 [.ref al, .int (1 : Int32), xU, xU] [] h Q := by
  refine x_aload_n dJx4a65c_grow_92f84_0 rfl ?_
  refine x_get 1 dJx4a65c_grow_92f84_1 hal rfl (by decide) (by decide +kernel) rfl ?_
  refine x_tlen (v := 0) dJx4a65c_grow_92f84_4 (fun s hK => hK.2.2.2.1.2.2) (by decide) ?_
  refine x_istore_n dJx4a65c_grow_92f84_5 (by decide) rfl ?_
  refine x_iload_n dJx4a65c_grow_92f84_6 rfl ?_
  refine x_if_gt (tgt := 20) dJx4a65c_grow_92f84_7 (by decide) (fun z9 => absurd z9 (by decide)) (fun _ => ?_)
  refine x_aload_n dJx4a65c_grow_92f84_10 rfl ?_
  refine x_get 1 dJx4a65c_grow_92f84_11 hal rfl (by decide) (by decide +kernel) rfl ?_
  refine x_gets dJx4a65c_grow_92f84_14 (fun s hK => hK.2.2.1.2.2) (by decide +kernel) ?_
  refine x_acmp_eq (tgt := 45) dJx4a65c_grow_92f84_17 (by decide) (fun _ => ?_) (fun z9 => absurd rfl z9)
  refine x_aload_n dJx4a65c_grow_92f84_45 rfl ?_
  refine x_bipush (v := 10) dJx4a65c_grow_92f84_46 (by decide) ?_
  refine x_iload_n dJx4a65c_grow_92f84_48 rfl ?_
  refine x_mmax dJx4a65c_grow_92f84_49 (by decide +kernel) (by decide +kernel) (by decide +kernel) (by decide +kernel) (Nat.le_of_ble_eq_true rfl) (by omega) (Nat.le_of_ble_eq_true rfl) (Nat.le_of_ble_eq_true rfl) ?_
  refine x_anewA (N := 10) dJx4a65c_grow_92f84_52 (by decide +kernel) (by decide) (by decide) (by decide) (Nat.le_of_ble_eq_true rfl) (Nat.le_of_ble_eq_true rfl) (fun ed t_ed u_ed => ?_)
  have l_ed : al < ed := t_ed _ _ hal
  refine x_dup_x1 dJx4a65c_grow_92f84_55 rfl rfl ?_
  refine x_put 1 dJx4a65c_grow_92f84_56 (xup_k (by omega) hal) rfl (by decide) (by decide +kernel) rfl rfl rfl rfl (Nat.le_of_ble_eq_true rfl) ?_
  exact x_aret dJx4a65c_grow_92f84_59 rfl (Or.inr ⟨_, rfl⟩) (Or.inr ⟨_, rfl⟩) (hQ ed t_ed u_ed) (Nat.le_of_ble_eq_true rfl) (Nat.le_of_ble_eq_true rfl)
set_option maxHeartbeats 4000000 in
set_option maxRecDepth 100000 in
theorem kJx4a65c_grow_d5877 {G : xG} {l : Launch} {d : Nat} {h : xH} {Q : Option Value → xH → Prop} {al : Nat} {md : Int32} (hal : h al = some (xAo (xT3 G) md 0)) (hQ : ∀ ed : Nat, xTop h ed → xB G ≤ ed → Q (some (.ref ed)) (xup (xup h ed (xRo G 10 (fun _ => none))) al (xAo ed md 0))) : xV G l mJx4a65c_grow_d5877 (d + 2) 1 10 0 0 0 [.ref al] [] h Q := by
  refine x_aload_n dJx4a65c_grow_d5877_0 rfl ?_
  refine x_aload_n dJx4a65c_grow_d5877_1 rfl ?_
  refine x_get 2 dJx4a65c_grow_d5877_2 hal rfl (by decide) (by decide +kernel) rfl ?_
  refine x_iconst (v := 1) dJx4a65c_grow_d5877_5 (by decide) ?_
  refine x_iadd dJx4a65c_grow_d5877_6 ?_
  refine x_callV (M' := mJx4a65c_grow_92f84) (mc' := 1) (ms' := 10) (As := [.int ((0 : Int32) + (1 : Int32))]) dJx4a65c_grow_d5877_7 gJx4a65c_grow_d5877_Jx4a65c_grow_92f84 okJx4a65c_grow_92f84 rfl rfl hal rfl (Nat.le_of_ble_eq_true rfl) (Nat.le_of_ble_eq_true rfl) (Nat.le_refl _) (Nat.le_of_ble_eq_true rfl) (Nat.le_of_ble_eq_true rfl) ?_
  refine x_ls (L' := [.ref al, .int (1 : Int32), xU, xU]) rfl rfl ?_
  refine kJx4a65c_grow_92f84 hal (fun ed t_ed u_ed => ?_)
  show xV _ _ _ _ _ _ _ _ _ _ _ _ _
  exact x_aret dJx4a65c_grow_d5877_10 rfl (Or.inr ⟨_, rfl⟩) (Or.inr ⟨_, rfl⟩) (hQ ed t_ed u_ed) (Nat.le_of_ble_eq_true rfl) (Nat.le_of_ble_eq_true rfl)
set_option maxHeartbeats 4000000 in
set_option maxRecDepth 100000 in
theorem kJ_add3A {G : xG} {l : Launch} {d : Nat} {h : xH} {Q : Option Value → xH → Prop} {al v : Nat} {md : Int32} {vs : List Value} (hal : h al = some (xAo (xT3 G) md 0)) (hv : h v = some (.inr (4, vs))) (hva : v ≠ al) (hQ : ∀ (h' : xH) (ed : Nat), xTop h ed → xB G ≤ ed → h' al = some (xAo ed md 1) → h' ed = some (xRo G 10 (va_up (fun _ => none) 0 (some v))) → (∀ b, b ≠ al → b ≠ ed → h' b = h b) → Q (none) h') : xV G l mJx4a65c_add_72be8 (d + 3) 1 10 0 0 0 [.ref al, .ref v, .ref (xT3 G), .int 0] [] h Q := by
  refine x_iload_n dJx4a65c_add_72be8_0 rfl ?_
  refine x_aload_n dJx4a65c_add_72be8_1 rfl ?_
  refine x_tlen (v := 0) dJx4a65c_add_72be8_2 (fun s hK => hK.2.2.2.1.2.2) (by decide) ?_
  refine x_icmp_ne (tgt := 11) dJx4a65c_add_72be8_3 (by decide) (fun z9 => absurd rfl z9) (fun _ => ?_)
  refine x_aload_n dJx4a65c_add_72be8_6 rfl ?_
  refine x_callV (M' := mJx4a65c_grow_d5877) (mc' := 1) (ms' := 10) (As := []) dJx4a65c_add_72be8_7 gJx4a65c_add_72be8_Jx4a65c_grow_d5877 okJx4a65c_grow_d5877 rfl rfl hal rfl (Nat.le_of_ble_eq_true rfl) (Nat.le_of_ble_eq_true rfl) (Nat.le_refl _) (Nat.le_of_ble_eq_true rfl) (Nat.le_of_ble_eq_true rfl) ?_
  refine kJx4a65c_grow_d5877 hal (fun ed t_ed u_ed => ?_)
  have l_al : al < ed := t_ed _ _ hal
  have l_v : v < ed := t_ed _ _ hv
  show xV _ _ _ _ _ _ _ _ _ _ _ _ _
  refine x_astore_n dJx4a65c_add_72be8_10 (by decide) rfl ?_
  refine x_aload_n dJx4a65c_add_72be8_11 rfl ?_
  refine x_iload_n dJx4a65c_add_72be8_12 rfl ?_
  refine x_aload_n dJx4a65c_add_72be8_13 rfl ?_
  refine x_aast dJx4a65c_add_72be8_14 (xup_k (by omega) xup_s) (xup_k (by omega) (xup_k (by omega) hv)) rfl (fun s hK => hK.2.2.2.2.2.2.2.2.2.2.2.1) (vp_in_nI (n := 0) (N := 10) (by decide) (by decide)) ?_
  refine x_aload_n dJx4a65c_add_72be8_15 rfl ?_
  refine x_iload_n dJx4a65c_add_72be8_16 rfl ?_
  refine x_iconst (v := 1) dJx4a65c_add_72be8_17 (by decide) ?_
  refine x_iadd dJx4a65c_add_72be8_18 ?_
  refine x_put 2 dJx4a65c_add_72be8_19 (xup_k (by omega) xup_s) rfl (by decide) (by decide +kernel) rfl rfl rfl rfl (Nat.le_of_ble_eq_true rfl) ?_
  exact x_vret dJx4a65c_add_72be8_22 rfl (hQ _ ed t_ed u_ed xup_s (xup_k (by omega) xup_s) (fun b e1 e2 => by rw [xup_n e1, xup_n e2, xup_n e1, xup_n e2])) (Nat.le_of_ble_eq_true rfl) (Nat.le_of_ble_eq_true rfl)
set_option maxHeartbeats 4000000 in
set_option maxRecDepth 100000 in
theorem kJ_add3B {G : xG} {l : Launch} {d : Nat} {h : xH} {Q : Option Value → xH → Prop} {al ed v N : Nat} {md : Int32} {vs : List Value} {f : Nat → Option Nat} (hal : h al = some (xAo ed md (nI N))) (hed : h ed = some (xRo G 10 f)) (hv : h v = some (.inr (4, vs))) (hva : v ≠ al) (hve : v ≠ ed) (hea : ed ≠ al) (hN : N < 10) (hQ : ∀ (h' : xH), h' al = some (xAo ed md (nI N + 1)) → h' ed = some (xRo G 10 (va_up f (nI N).toNatClampNeg (some v))) → (∀ b, b ≠ al → b ≠ ed → h' b = h b) → Q (none) h') : xV G l mJx4a65c_add_72be8 (d + 3) 1 10 0 0 0 [.ref al, .ref v, .ref ed, .int (nI N)] [] h Q := by
  refine x_iload_n dJx4a65c_add_72be8_0 rfl ?_
  refine x_aload_n dJx4a65c_add_72be8_1 rfl ?_
  refine x_alenO (v := 10) dJx4a65c_add_72be8_2 hed (by decide) ?_
  refine x_icmp_ne (tgt := 11) dJx4a65c_add_72be8_3 (by decide) (fun _ => ?_) (fun z9 => absurd z9 (by rw [show (10 : Int32) = nI 10 from rfl, nI_eq (by omega) (by decide)]; omega))
  refine x_aload_n dJx4a65c_add_72be8_11 rfl ?_
  refine x_iload_n dJx4a65c_add_72be8_12 rfl ?_
  refine x_aload_n dJx4a65c_add_72be8_13 rfl ?_
  refine x_aast dJx4a65c_add_72be8_14 hed hv rfl (fun s hK => hK.2.2.2.2.2.2.2.2.2.2.2.1) (vp_in_nI (by omega) (by decide)) ?_
  refine x_aload_n dJx4a65c_add_72be8_15 rfl ?_
  refine x_iload_n dJx4a65c_add_72be8_16 rfl ?_
  refine x_iconst (v := 1) dJx4a65c_add_72be8_17 (by decide) ?_
  refine x_iadd dJx4a65c_add_72be8_18 ?_
  refine x_put 2 dJx4a65c_add_72be8_19 (xup_k (Ne.symm hea) hal) rfl (by decide) (by decide +kernel) rfl rfl rfl rfl (Nat.le_of_ble_eq_true rfl) ?_
  exact x_vret dJx4a65c_add_72be8_22 rfl (hQ _ xup_s (xup_k hea xup_s) (fun b e1 e2 => by rw [xup_n e1, xup_n e2])) (Nat.le_of_ble_eq_true rfl) (Nat.le_of_ble_eq_true rfl)
set_option maxHeartbeats 4000000 in
set_option maxRecDepth 100000 in
theorem kJ_addA {G : xG} {l : Launch} {d : Nat} {h : xH} {Q : Option Value → xH → Prop} {al v : Nat} {md : Int32} {vs : List Value} (hal : h al = some (xAo (xT3 G) md 0)) (hv : h v = some (.inr (4, vs))) (hva : v ≠ al) (hQ : ∀ (h' : xH) (ed : Nat), xTop h ed → xB G ≤ ed → h' al = some (xAo ed (md + 1) 1) → h' ed = some (xRo G 10 (va_up (fun _ => none) 0 (some v))) → (∀ b, b ≠ al → b ≠ ed → h' b = h b) → Q (some (.int 1)) h') : xV G l mJx4a65c_add_9ea2d (d + 4) 1 10 0 0 0 [.ref al, .ref v] [] h Q := by
  refine x_aload_n dJx4a65c_add_9ea2d_0 rfl ?_
  refine x_dup dJx4a65c_add_9ea2d_1 rfl ?_
  refine x_getI 0 dJx4a65c_add_9ea2d_2 hal rfl (by decide) (by decide +kernel) xsame_mod rfl ?_
  refine x_iconst (v := 1) dJx4a65c_add_9ea2d_5 (by decide) ?_
  refine x_iadd dJx4a65c_add_9ea2d_6 ?_
  refine x_putG 0 dJx4a65c_add_9ea2d_7 hal rfl (by decide) (by decide +kernel) xsame_mod rfl rfl rfl rfl (Nat.le_of_ble_eq_true rfl) ?_
  refine x_aload_n dJx4a65c_add_9ea2d_10 rfl ?_
  refine x_aload_n dJx4a65c_add_9ea2d_11 rfl ?_
  refine x_aload_n dJx4a65c_add_9ea2d_12 rfl ?_
  refine x_get 1 dJx4a65c_add_9ea2d_13 xup_s rfl (by decide) (by decide +kernel) rfl ?_
  refine x_aload_n dJx4a65c_add_9ea2d_16 rfl ?_
  refine x_get 2 dJx4a65c_add_9ea2d_17 xup_s rfl (by decide) (by decide +kernel) rfl ?_
  refine x_callV (M' := mJx4a65c_add_72be8) (mc' := 1) (ms' := 10) (As := [.ref v, .ref (xT3 G), .int (0 : Int32)]) dJx4a65c_add_9ea2d_20 gJx4a65c_add_9ea2d_Jx4a65c_add_72be8 okJx4a65c_add_72be8 rfl rfl xup_s rfl (Nat.le_of_ble_eq_true rfl) (Nat.le_of_ble_eq_true rfl) (Nat.le_refl _) (Nat.le_of_ble_eq_true rfl) (Nat.le_of_ble_eq_true rfl) ?_
  refine kJ_add3A xup_s (xup_k hva hv) hva (fun h1 ed t_ed u_ed ha1 he1 hF1 => ?_)
  show xV _ _ _ _ _ _ _ _ _ _ _ _ _
  refine x_iconst (v := 1) dJx4a65c_add_9ea2d_23 (by decide) ?_
  exact x_zret dJx4a65c_add_9ea2d_24 rfl rfl (hQ _ ed t_ed.of u_ed ha1 he1 (fun b e1 e2 => by rw [hF1 b e1 e2, xup_n e1])) (Nat.le_of_ble_eq_true rfl) (Nat.le_of_ble_eq_true rfl)
set_option maxHeartbeats 4000000 in
set_option maxRecDepth 100000 in
theorem kJ_addB {G : xG} {l : Launch} {d : Nat} {h : xH} {Q : Option Value → xH → Prop} {al ed v N : Nat} {md : Int32} {vs : List Value} {f : Nat → Option Nat} (hal : h al = some (xAo ed md (nI N))) (hed : h ed = some (xRo G 10 f)) (hv : h v = some (.inr (4, vs))) (hva : v ≠ al) (hve : v ≠ ed) (hea : ed ≠ al) (hN : N < 10) (hQ : ∀ (h' : xH), h' al = some (xAo ed (md + 1) (nI N + 1)) → h' ed = some (xRo G 10 (va_up f (nI N).toNatClampNeg (some v))) → (∀ b, b ≠ al → b ≠ ed → h' b = h b) → Q (some (.int 1)) h') : xV G l mJx4a65c_add_9ea2d (d + 4) 1 10 0 0 0 [.ref al, .ref v] [] h Q := by
  refine x_aload_n dJx4a65c_add_9ea2d_0 rfl ?_
  refine x_dup dJx4a65c_add_9ea2d_1 rfl ?_
  refine x_getI 0 dJx4a65c_add_9ea2d_2 hal rfl (by decide) (by decide +kernel) xsame_mod rfl ?_
  refine x_iconst (v := 1) dJx4a65c_add_9ea2d_5 (by decide) ?_
  refine x_iadd dJx4a65c_add_9ea2d_6 ?_
  refine x_putG 0 dJx4a65c_add_9ea2d_7 hal rfl (by decide) (by decide +kernel) xsame_mod rfl rfl rfl rfl (Nat.le_of_ble_eq_true rfl) ?_
  refine x_aload_n dJx4a65c_add_9ea2d_10 rfl ?_
  refine x_aload_n dJx4a65c_add_9ea2d_11 rfl ?_
  refine x_aload_n dJx4a65c_add_9ea2d_12 rfl ?_
  refine x_get 1 dJx4a65c_add_9ea2d_13 xup_s rfl (by decide) (by decide +kernel) rfl ?_
  refine x_aload_n dJx4a65c_add_9ea2d_16 rfl ?_
  refine x_get 2 dJx4a65c_add_9ea2d_17 xup_s rfl (by decide) (by decide +kernel) rfl ?_
  refine x_callV (M' := mJx4a65c_add_72be8) (mc' := 1) (ms' := 10) (As := [.ref v, .ref ed, .int (nI N)]) dJx4a65c_add_9ea2d_20 gJx4a65c_add_9ea2d_Jx4a65c_add_72be8 okJx4a65c_add_72be8 rfl rfl xup_s rfl (Nat.le_of_ble_eq_true rfl) (Nat.le_of_ble_eq_true rfl) (Nat.le_refl _) (Nat.le_of_ble_eq_true rfl) (Nat.le_of_ble_eq_true rfl) ?_
  refine kJ_add3B xup_s (xup_k hea hed) (xup_k hva hv) hva hve hea hN (fun h1 ha1 he1 hF1 => ?_)
  show xV _ _ _ _ _ _ _ _ _ _ _ _ _
  refine x_iconst (v := 1) dJx4a65c_add_9ea2d_23 (by decide) ?_
  exact x_zret dJx4a65c_add_9ea2d_24 rfl rfl (hQ _ ha1 he1 (fun b e1 e2 => by rw [hF1 b e1 e2, xup_n e1])) (Nat.le_of_ble_eq_true rfl) (Nat.le_of_ble_eq_true rfl)
/-- where a new series' cells lie -/
def xBn (B : Nat → Nat → Nat) (N b0 b1 b2 b3 b4 b5 b6 b7 : Nat) : Nat → Nat → Nat := fun k j => if k = N then (match j with | 0 => b0 | 1 => b1 | 2 => b2 | 3 => b3 | 4 => b4 | 5 => b5 | 6 => b6 | _ => b7) else B k j
theorem serK {G : xG} {sc pg sx sy al ed ed' : Nat} {C : Nat → Nat} {B B' : Nat → Nat → Nat} {p : xPv} {n : Int32} {U : Nat → Nat → Int32} {md md' : Int32} {N : Nat} {I : Nat → xSi} {V : Nat → Nat → Nat → Int32} {h h' : xH} {I' : xSi} {V' : Nat → Nat → Int32} (hK : xCls G sc pg sx sy al ed C B p n U md N I V h) (hD : xDs sc pg sx sy al ed C B) (F : ∀ b cc, h b = some cc → b ≠ al → b ≠ ed → h' b = some cc) (hal : h' al = some (xAo ed' md' (nI (N + 1)))) (hed : h' ed' = some (xRo G 10 (xSl B' (N + 1)))) (hN : N < 6) (eB : ∀ k, k < N → ∀ j, B' k j = B k j) (hS : xSer G (B' N) pg I' V' h') : xCls G sc pg sx sy al ed' C B' p n U md' (N + 1) (va_up I N I') (va_up V N V') h' := by
  obtain ⟨k1, k2, k3, k4, k5, k6, k7⟩ := hK
  obtain ⟨d1, d2, d3, d4, d5, d6, d7, d8, d9, d10⟩ := hD
  have fc : ∀ i cc, h (C i) = some cc → h' (C i) = some cc := fun i cc z => F _ cc z (d5 i).2.2.2.2.1 (d5 i).2.2.2.2.2
  refine ⟨F _ _ k1 d6.2.2.2.1 d6.2.2.2.2, ⟨F _ _ k2.1 d7.2.2.1 d7.2.2.2, F _ _ k2.2.1 d8.2.1 d8.2.2, F _ _ k2.2.2 d9.1 d9.2⟩, ⟨fc _ _ k3.1, fc _ _ k3.2.1, fc _ _ k3.2.2.1, fc _ _ k3.2.2.2.1, fc _ _ k3.2.2.2.2.1, fc _ _ k3.2.2.2.2.2⟩, hal, fun _ => hed, fun k hk => ?_, by omega⟩
  by_cases e : k = N
  · subst e
    simp only [va_up, if_true]
    exact hS
  · have hkN : k < N := by omega
    simp only [va_up, if_neg e]
    have h0 := k6 k hkN
    have eb : B' k = B k := funext (eB k hkN)
    rw [eb]
    have fb : ∀ j cc, h (B k j) = some cc → h' (B k j) = some cc := fun j cc z => F _ cc z (d3 k j).2.2.2.2.1 (d3 k j).2.2.2.2.2
    exact ⟨fb _ _ h0.1, fb _ _ h0.2.1, fb _ _ h0.2.2.1, fb _ _ h0.2.2.2.1, fb _ _ h0.2.2.2.2.1, fb _ _ h0.2.2.2.2.2.1, fb _ _ h0.2.2.2.2.2.2.1, fb _ _ h0.2.2.2.2.2.2.2⟩
theorem xSl_n {B B' : Nat → Nat → Nat} {N : Nat} (eB : ∀ k, k < N → ∀ j, B' k j = B k j) : va_up (xSl B N) N (some (B' N 0)) = xSl B' (N + 1) := by
  funext k
  simp only [va_up, xSl]
  by_cases e : k = N
  · subst e; simp
  · by_cases e2 : k < N
    · rw [if_neg e, if_pos e2, if_pos (by omega), eB k e2 0]
    · rw [if_neg e, if_neg e2, if_neg (by omega)]
theorem xSl_0 (B : Nat → Nat → Nat) : xSl B 0 = fun _ => none := funext fun k => if_neg (Nat.not_lt_zero k)
set_option maxHeartbeats 4000000 in
set_option maxRecDepth 100000 in
theorem kX5_seriesB {G : xG} {l : Launch} {d : Nat} {h : xH} {Q : Option Value → xH → Prop} {sc pg sx sy al ed : Nat} {C : Nat → Nat} {B : Nat → Nat → Nat} {p : xPv} {n : Int32} {U : Nat → Nat → Int32} {md : Int32} {N : Nat} {I : Nat → xSi} {V : Nat → Nat → Nat → Int32} {x y z : Int32} (hK : xCls G sc pg sx sy al ed C B p n U md N I V h) (hb : FX5_isStyle 0 x = 0 ∨ FX5_isStyle 1 y = 0 ∨ FX5_isStyle 2 z = 0) (hQ : Q (some (.int (-1))) h) : xV G l mX5_series (d + 5) 9 1400 0 0 0 [.ref sc, .int x, .int y, .int z] [] h Q := by
  refine x_iconst (v := 0) dX5_series_0 (by decide) ?_
  refine x_iload_n dX5_series_1 rfl ?_
  refine x_callS (M' := mX5_isStyle) (mc' := 0) (ms' := 0) (As := [.int (0 : Int32), .int x]) dX5_series_2 gX5_series_X5_isStyle okX5_isStyle rfl rfl (Nat.le_of_ble_eq_true rfl) (Nat.le_of_ble_eq_true rfl) (Nat.le_refl _) (Nat.le_of_ble_eq_true rfl) (Nat.le_of_ble_eq_true rfl) ?_
  refine kX5_isStyle  ?_
  show xV _ _ _ _ _ _ _ _ _ _ _ _ _
  refine x_if_eq (tgt := 24) dX5_series_5 (by decide) (fun hc_5 => ?_) (fun hc_5 => ?_)
  · refine x_iconst (v := (-1)) dX5_series_24 (by decide) ?_
    exact x_iret dX5_series_25 rfl hQ (Nat.le_of_ble_eq_true rfl) (Nat.le_of_ble_eq_true rfl)
  · refine x_iconst (v := 1) dX5_series_8 (by decide) ?_
    refine x_iload_n dX5_series_9 rfl ?_
    refine x_callS (M' := mX5_isStyle) (mc' := 0) (ms' := 0) (As := [.int (1 : Int32), .int y]) dX5_series_10 gX5_series_X5_isStyle okX5_isStyle rfl rfl (Nat.le_of_ble_eq_true rfl) (Nat.le_of_ble_eq_true rfl) (Nat.le_refl _) (Nat.le_of_ble_eq_true rfl) (Nat.le_of_ble_eq_true rfl) ?_
    refine kX5_isStyle  ?_
    show xV _ _ _ _ _ _ _ _ _ _ _ _ _
    refine x_if_eq (tgt := 24) dX5_series_13 (by decide) (fun hc_13 => ?_) (fun hc_13 => ?_)
    · refine x_iconst (v := (-1)) dX5_series_24 (by decide) ?_
      exact x_iret dX5_series_25 rfl hQ (Nat.le_of_ble_eq_true rfl) (Nat.le_of_ble_eq_true rfl)
    · refine x_iconst (v := 2) dX5_series_16 (by decide) ?_
      refine x_iload_n dX5_series_17 rfl ?_
      refine x_callS (M' := mX5_isStyle) (mc' := 0) (ms' := 0) (As := [.int (2 : Int32), .int z]) dX5_series_18 gX5_series_X5_isStyle okX5_isStyle rfl rfl (Nat.le_of_ble_eq_true rfl) (Nat.le_of_ble_eq_true rfl) (Nat.le_refl _) (Nat.le_of_ble_eq_true rfl) (Nat.le_of_ble_eq_true rfl) ?_
      refine kX5_isStyle  ?_
      show xV _ _ _ _ _ _ _ _ _ _ _ _ _
      refine x_if_ne (tgt := 26) dX5_series_21 (by decide) (fun hc_21 => ?_) (fun hc_21 => ?_)
      · exact absurd hb (not_or.mpr ⟨hc_5, not_or.mpr ⟨hc_13, hc_21⟩⟩)
      · refine x_iconst (v := (-1)) dX5_series_24 (by decide) ?_
        exact x_iret dX5_series_25 rfl hQ (Nat.le_of_ble_eq_true rfl) (Nat.le_of_ble_eq_true rfl)
set_option maxHeartbeats 4000000 in
set_option maxRecDepth 100000 in
theorem kX5_seriesF {G : xG} {l : Launch} {d : Nat} {h : xH} {Q : Option Value → xH → Prop} {sc pg sx sy al ed : Nat} {C : Nat → Nat} {B : Nat → Nat → Nat} {p : xPv} {n : Int32} {U : Nat → Nat → Int32} {md : Int32} {N : Nat} {I : Nat → xSi} {V : Nat → Nat → Nat → Int32} {x y z : Int32} (hK : xCls G sc pg sx sy al ed C B p n U md N I V h) (hx : ¬ FX5_isStyle 0 x = 0) (hy : ¬ FX5_isStyle 1 y = 0) (hz : ¬ FX5_isStyle 2 z = 0) (hN : N = 6) (hQ : Q (some (.int (-3))) h) : xV G l mX5_series (d + 5) 9 1400 0 0 0 [.ref sc, .int x, .int y, .int z] [] h Q := by
  refine x_iconst (v := 0) dX5_series_0 (by decide) ?_
  refine x_iload_n dX5_series_1 rfl ?_
  refine x_callS (M' := mX5_isStyle) (mc' := 0) (ms' := 0) (As := [.int (0 : Int32), .int x]) dX5_series_2 gX5_series_X5_isStyle okX5_isStyle rfl rfl (Nat.le_of_ble_eq_true rfl) (Nat.le_of_ble_eq_true rfl) (Nat.le_refl _) (Nat.le_of_ble_eq_true rfl) (Nat.le_of_ble_eq_true rfl) ?_
  refine kX5_isStyle  ?_
  show xV _ _ _ _ _ _ _ _ _ _ _ _ _
  refine x_if_eq (tgt := 24) dX5_series_5 (by decide) (fun z9 => absurd z9 hx) (fun _ => ?_)
  refine x_iconst (v := 1) dX5_series_8 (by decide) ?_
  refine x_iload_n dX5_series_9 rfl ?_
  refine x_callS (M' := mX5_isStyle) (mc' := 0) (ms' := 0) (As := [.int (1 : Int32), .int y]) dX5_series_10 gX5_series_X5_isStyle okX5_isStyle rfl rfl (Nat.le_of_ble_eq_true rfl) (Nat.le_of_ble_eq_true rfl) (Nat.le_refl _) (Nat.le_of_ble_eq_true rfl) (Nat.le_of_ble_eq_true rfl) ?_
  refine kX5_isStyle  ?_
  show xV _ _ _ _ _ _ _ _ _ _ _ _ _
  refine x_if_eq (tgt := 24) dX5_series_13 (by decide) (fun z9 => absurd z9 hy) (fun _ => ?_)
  refine x_iconst (v := 2) dX5_series_16 (by decide) ?_
  refine x_iload_n dX5_series_17 rfl ?_
  refine x_callS (M' := mX5_isStyle) (mc' := 0) (ms' := 0) (As := [.int (2 : Int32), .int z]) dX5_series_18 gX5_series_X5_isStyle okX5_isStyle rfl rfl (Nat.le_of_ble_eq_true rfl) (Nat.le_of_ble_eq_true rfl) (Nat.le_refl _) (Nat.le_of_ble_eq_true rfl) (Nat.le_of_ble_eq_true rfl) ?_
  refine kX5_isStyle  ?_
  show xV _ _ _ _ _ _ _ _ _ _ _ _ _
  refine x_if_ne (tgt := 26) dX5_series_21 (by decide) (fun _ => ?_) (fun z9 => absurd z9 hz)
  refine x_aload_n dX5_series_26 rfl ?_
  refine x_get 1 dX5_series_27 hK.1 rfl (by decide) (by decide +kernel) rfl ?_
  refine x_callV (M' := mJx4a65c_size_8abf5) (mc' := 0) (ms' := 0) (As := []) dX5_series_30 gX5_series_Jx4a65c_size_8abf5 okJx4a65c_size_8abf5 rfl rfl hK.2.2.2.1 rfl (Nat.le_of_ble_eq_true rfl) (Nat.le_of_ble_eq_true rfl) (Nat.le_refl _) (Nat.le_of_ble_eq_true rfl) (Nat.le_of_ble_eq_true rfl) ?_
  refine kJx4a65c_size_8abf5 hK.2.2.2.1 ?_
  show xV _ _ _ _ _ _ _ _ _ _ _ _ _
  refine x_bipush (v := 6) dX5_series_33 (by decide) ?_
  refine x_icmp_lt (tgt := 41) dX5_series_35 (by decide) (fun z9 => absurd z9 (nI_nlt (a := N) (b := 6) (by omega) (by omega))) (fun _ => ?_)
  refine x_bipush (v := (-3)) dX5_series_38 (by decide) ?_
  exact x_iret dX5_series_40 rfl hQ (Nat.le_of_ble_eq_true rfl) (Nat.le_of_ble_eq_true rfl)
set_option maxHeartbeats 4000000 in
set_option maxRecDepth 100000 in
theorem kX5_series1 {G : xG} {l : Launch} {d : Nat} {h : xH} {Q : Option Value → xH → Prop} {sc pg sx sy al ed : Nat} {C : Nat → Nat} {B : Nat → Nat → Nat} {p : xPv} {n : Int32} {U : Nat → Nat → Int32} {md : Int32} {N : Nat} {I : Nat → xSi} {V : Nat → Nat → Nat → Int32} {x y z : Int32} (hK : xCls G sc pg sx sy al ed C B p n U md N I V h) (hD : xDs sc pg sx sy al ed C B) (hx : ¬ FX5_isStyle 0 x = 0) (hy : ¬ FX5_isStyle 1 y = 0) (hz : ¬ FX5_isStyle 2 z = 0) (hN6 : N < 6) (hN0 : N = 0) (hed0 : ed = xT3 G) (hQ : ∀ (h' : xH) (B' : Nat → Nat → Nat) (ed' : Nat) (md' : Int32), (∀ k, k < N → ∀ j, B' k j = B k j) → xTop h (B' N 0) → xB G ≤ B' N 0 → (B' N 0 < B' N 1 ∧ B' N 1 < B' N 2 ∧ B' N 2 < B' N 3 ∧ B' N 3 < B' N 4 ∧ B' N 4 < B' N 5 ∧ B' N 5 < B' N 6 ∧ B' N 6 < B' N 7) → (B' N 7 < ed' ∨ ed' = ed) → xCls G sc pg sx sy al ed' C B' p n U md' (N + 1) (va_up I N (x, y, z, 0, 1)) (va_up V N (fun _ _ => 0)) h' → (∀ b cc, h b = some cc → b ≠ al → b ≠ ed → h' b = some cc) → Q (some (.int (nI N))) h') : xV G l mX5_series (d + 5) 9 1400 0 0 0 [.ref sc, .int x, .int y, .int z] [] h Q := by
  refine x_iconst (v := 0) dX5_series_0 (by decide) ?_
  refine x_iload_n dX5_series_1 rfl ?_
  refine x_callS (M' := mX5_isStyle) (mc' := 0) (ms' := 0) (As := [.int (0 : Int32), .int x]) dX5_series_2 gX5_series_X5_isStyle okX5_isStyle rfl rfl (Nat.le_of_ble_eq_true rfl) (Nat.le_of_ble_eq_true rfl) (Nat.le_refl _) (Nat.le_of_ble_eq_true rfl) (Nat.le_of_ble_eq_true rfl) ?_
  refine kX5_isStyle  ?_
  show xV _ _ _ _ _ _ _ _ _ _ _ _ _
  refine x_if_eq (tgt := 24) dX5_series_5 (by decide) (fun z9 => absurd z9 hx) (fun _ => ?_)
  refine x_iconst (v := 1) dX5_series_8 (by decide) ?_
  refine x_iload_n dX5_series_9 rfl ?_
  refine x_callS (M' := mX5_isStyle) (mc' := 0) (ms' := 0) (As := [.int (1 : Int32), .int y]) dX5_series_10 gX5_series_X5_isStyle okX5_isStyle rfl rfl (Nat.le_of_ble_eq_true rfl) (Nat.le_of_ble_eq_true rfl) (Nat.le_refl _) (Nat.le_of_ble_eq_true rfl) (Nat.le_of_ble_eq_true rfl) ?_
  refine kX5_isStyle  ?_
  show xV _ _ _ _ _ _ _ _ _ _ _ _ _
  refine x_if_eq (tgt := 24) dX5_series_13 (by decide) (fun z9 => absurd z9 hy) (fun _ => ?_)
  refine x_iconst (v := 2) dX5_series_16 (by decide) ?_
  refine x_iload_n dX5_series_17 rfl ?_
  refine x_callS (M' := mX5_isStyle) (mc' := 0) (ms' := 0) (As := [.int (2 : Int32), .int z]) dX5_series_18 gX5_series_X5_isStyle okX5_isStyle rfl rfl (Nat.le_of_ble_eq_true rfl) (Nat.le_of_ble_eq_true rfl) (Nat.le_refl _) (Nat.le_of_ble_eq_true rfl) (Nat.le_of_ble_eq_true rfl) ?_
  refine kX5_isStyle  ?_
  show xV _ _ _ _ _ _ _ _ _ _ _ _ _
  refine x_if_ne (tgt := 26) dX5_series_21 (by decide) (fun _ => ?_) (fun z9 => absurd z9 hz)
  refine x_aload_n dX5_series_26 rfl ?_
  refine x_get 1 dX5_series_27 hK.1 rfl (by decide) (by decide +kernel) rfl ?_
  refine x_callV (M' := mJx4a65c_size_8abf5) (mc' := 0) (ms' := 0) (As := []) dX5_series_30 gX5_series_Jx4a65c_size_8abf5 okJx4a65c_size_8abf5 rfl rfl hK.2.2.2.1 rfl (Nat.le_of_ble_eq_true rfl) (Nat.le_of_ble_eq_true rfl) (Nat.le_refl _) (Nat.le_of_ble_eq_true rfl) (Nat.le_of_ble_eq_true rfl) ?_
  refine kJx4a65c_size_8abf5 hK.2.2.2.1 ?_
  show xV _ _ _ _ _ _ _ _ _ _ _ _ _
  refine x_bipush (v := 6) dX5_series_33 (by decide) ?_
  refine x_icmp_lt (tgt := 41) dX5_series_35 (by decide) (fun _ => ?_) (fun z9 => absurd (nI_lt (a := N) (b := 6) (by omega) (by omega)) z9)
  refine x_aload_n dX5_series_41 rfl ?_
  refine x_get 1 dX5_series_42 hK.1 rfl (by decide) (by decide +kernel) rfl ?_
  refine x_newA (ci := 4) (fs := [.int (0 : Int32), .int (0 : Int32), .int (0 : Int32), .int (0 : Int32), .int (0 : Int32), .null, .null, .null, .null, .null, .null]) dX5_series_45 rfl (by decide +kernel) (by decide +kernel) (by decide +kernel) tyX3_ok (fun j hj => by rcases (show j = 0 ∨ j = 1 ∨ j = 2 ∨ j = 3 ∨ j = 4 ∨ j = 5 ∨ j = 6 ∨ j = 7 ∨ j = 8 ∨ j = 9 ∨ j = 10 by omega) with rfl | rfl | rfl | rfl | rfl | rfl | rfl | rfl | rfl | rfl | rfl <;> rfl) (Nat.le_of_ble_eq_true rfl) (Nat.le_of_ble_eq_true rfl) (fun b0 t_b0 u_b0 => ?_)
  refine x_dup dX5_series_48 rfl ?_
  refine x_aload_n dX5_series_49 rfl ?_
  refine x_get 0 dX5_series_50 (xup_k (Nat.ne_of_lt (t_b0 _ _ hK.1)) hK.1) rfl (by decide) (by decide +kernel) rfl ?_
  refine x_iload_n dX5_series_53 rfl ?_
  refine x_iload_n dX5_series_54 rfl ?_
  refine x_iload_n dX5_series_55 rfl ?_
  refine x_callI (M' := mX3_init) (mc' := 7) (ms' := 1379) (As := [.ref pg, .int x, .int y, .int z]) dX5_series_56 gX5_series_X3_init (by decide +kernel) (by decide +kernel) (by decide +kernel) rfl rfl okX3_init rfl rfl (Nat.le_of_ble_eq_true rfl) (Nat.le_of_ble_eq_true rfl) (Nat.le_refl _) (Nat.le_of_ble_eq_true rfl) (Nat.le_of_ble_eq_true rfl) ?_
  refine kX3_init xup_s (fun h1 b1 b2 b3 b4 b5 b6 b7 t_b1 u_b1 lb hS1 hF1 => ?_)
  have eB : ∀ k, k < N → ∀ j, (xBn B N b0 b1 b2 b3 b4 b5 b6 b7) k j = B k j := fun k hk j => if_neg (by omega)
  have hal1 := hF1 al _ (xup_k (Nat.ne_of_lt (t_b0 _ _ hK.2.2.2.1)) hK.2.2.2.1) (Nat.ne_of_lt (t_b0 _ _ hK.2.2.2.1))
  have la := t_b0 _ _ hK.2.2.2.1
  have hsc1 := hF1 sc _ (xup_k (Nat.ne_of_lt (t_b0 _ _ hK.1)) hK.1) (Nat.ne_of_lt (t_b0 _ _ hK.1))
  have F1 : ∀ b cc, h b = some cc → h1 b = some cc := fun b cc hb => hF1 b cc (xup_k (Nat.ne_of_lt (t_b0 _ _ hb)) hb) (Nat.ne_of_lt (t_b0 _ _ hb))
  have eBN : (xBn B N b0 b1 b2 b3 b4 b5 b6 b7) N = fun j => (match j with | 0 => b0 | 1 => b1 | 2 => b2 | 3 => b3 | 4 => b4 | 5 => b5 | 6 => b6 | _ => b7) := funext fun j => if_pos rfl
  show xV _ _ _ _ _ _ _ _ _ _ _ _ _
  refine x_callV (M' := mJx4a65c_add_9ea2d) (mc' := 1) (ms' := 10) (As := [.ref b0]) dX5_series_59 gX5_series_Jx4a65c_add_9ea2d okJx4a65c_add_9ea2d rfl rfl hal1 rfl (Nat.le_of_ble_eq_true rfl) (Nat.le_of_ble_eq_true rfl) (Nat.le_refl _) (Nat.le_of_ble_eq_true rfl) (Nat.le_of_ble_eq_true rfl) ?_
  refine kJ_addA (by rw [hal1, hed0, hN0]; rfl) hS1.1 (by omega) (fun h2 ed2 t_ed u_ed ha2 he2 hF2 => ?_)
  have le : b7 < ed2 := t_ed _ _ hS1.2.2.2.2.2.2.2
  have hsc2 := (hF2 sc hD.2.2.2.2.2.1.2.2.2.1 (Nat.ne_of_lt (t_ed _ _ hsc1))).trans hsc1
  show xV _ _ _ _ _ _ _ _ _ _ _ _ _
  refine x_pop dX5_series_62 rfl ?_
  refine x_aload_n dX5_series_63 rfl ?_
  refine x_get 1 dX5_series_64 hsc2 rfl (by decide) (by decide +kernel) rfl ?_
  refine x_callV (M' := mJx4a65c_size_8abf5) (mc' := 0) (ms' := 0) (As := []) dX5_series_67 gX5_series_Jx4a65c_size_8abf5 okJx4a65c_size_8abf5 rfl rfl ha2 rfl (Nat.le_of_ble_eq_true rfl) (Nat.le_of_ble_eq_true rfl) (Nat.le_refl _) (Nat.le_of_ble_eq_true rfl) (Nat.le_of_ble_eq_true rfl) ?_
  refine kJx4a65c_size_8abf5 ha2 ?_
  show xV _ _ _ _ _ _ _ _ _ _ _ _ _
  refine x_iconst (v := 1) dX5_series_70 (by decide) ?_
  refine x_isub dX5_series_71 ?_
  have eBN0 : (xBn B N b0 b1 b2 b3 b4 b5 b6 b7) N 0 = b0 := if_pos rfl
  have hKn := serK hK hD (h' := h2) (ed' := ed2) (B' := (xBn B N b0 b1 b2 b3 b4 b5 b6 b7)) (I' := (x, y, z, 0, 1)) (V' := fun _ _ => 0) (fun b cc hb e1 e2 => (hF2 b e1 (Nat.ne_of_lt (t_ed _ _ (F1 b cc hb)))).trans (F1 b cc hb)) (by rw [ha2, hN0]; rfl) (by rw [he2, ← xSl_n eB, eBN0, hN0, xSl_0]) hN6 eB (by rw [eBN]; exact ⟨(hF2 b0 (by omega) (by omega)).trans hS1.1, (hF2 b1 (by omega) (by omega)).trans hS1.2.1, (hF2 b2 (by omega) (by omega)).trans hS1.2.2.1, (hF2 b3 (by omega) (by omega)).trans hS1.2.2.2.1, (hF2 b4 (by omega) (by omega)).trans hS1.2.2.2.2.1, (hF2 b5 (by omega) (by omega)).trans hS1.2.2.2.2.2.1, (hF2 b6 (by omega) (by omega)).trans hS1.2.2.2.2.2.2.1, (hF2 b7 (by omega) (by omega)).trans hS1.2.2.2.2.2.2.2⟩)
  exact x_iret dX5_series_72 rfl (xri (by rw [hN0]; rfl) (hQ h2 (xBn B N b0 b1 b2 b3 b4 b5 b6 b7) ed2 _ eB (by rw [eBN]; exact t_b0) (by rw [eBN]; exact u_b0) ⟨(by rw [eBN]; exact lb.1), (by rw [eBN]; exact lb.2.1), (by rw [eBN]; exact lb.2.2.1), (by rw [eBN]; exact lb.2.2.2.1), (by rw [eBN]; exact lb.2.2.2.2.1), (by rw [eBN]; exact lb.2.2.2.2.2.1), (by rw [eBN]; exact lb.2.2.2.2.2.2)⟩ (Or.inl (by rw [eBN]; exact le)) hKn (fun b cc hb e1 e2 => (hF2 b e1 (Nat.ne_of_lt (t_ed _ _ (F1 b cc hb)))).trans (F1 b cc hb)))) (Nat.le_of_ble_eq_true rfl) (Nat.le_of_ble_eq_true rfl)
set_option maxHeartbeats 4000000 in
set_option maxRecDepth 100000 in
theorem kX5_seriesM {G : xG} {l : Launch} {d : Nat} {h : xH} {Q : Option Value → xH → Prop} {sc pg sx sy al ed : Nat} {C : Nat → Nat} {B : Nat → Nat → Nat} {p : xPv} {n : Int32} {U : Nat → Nat → Int32} {md : Int32} {N : Nat} {I : Nat → xSi} {V : Nat → Nat → Nat → Int32} {x y z : Int32} (hK : xCls G sc pg sx sy al ed C B p n U md N I V h) (hD : xDs sc pg sx sy al ed C B) (hx : ¬ FX5_isStyle 0 x = 0) (hy : ¬ FX5_isStyle 1 y = 0) (hz : ¬ FX5_isStyle 2 z = 0) (hN6 : N < 6) (hN0 : N ≠ 0) (hQ : ∀ (h' : xH) (B' : Nat → Nat → Nat) (ed' : Nat) (md' : Int32), (∀ k, k < N → ∀ j, B' k j = B k j) → xTop h (B' N 0) → xB G ≤ B' N 0 → (B' N 0 < B' N 1 ∧ B' N 1 < B' N 2 ∧ B' N 2 < B' N 3 ∧ B' N 3 < B' N 4 ∧ B' N 4 < B' N 5 ∧ B' N 5 < B' N 6 ∧ B' N 6 < B' N 7) → (B' N 7 < ed' ∨ ed' = ed) → xCls G sc pg sx sy al ed' C B' p n U md' (N + 1) (va_up I N (x, y, z, 0, 1)) (va_up V N (fun _ _ => 0)) h' → (∀ b cc, h b = some cc → b ≠ al → b ≠ ed → h' b = some cc) → Q (some (.int (nI N))) h') : xV G l mX5_series (d + 5) 9 1400 0 0 0 [.ref sc, .int x, .int y, .int z] [] h Q := by
  refine x_iconst (v := 0) dX5_series_0 (by decide) ?_
  refine x_iload_n dX5_series_1 rfl ?_
  refine x_callS (M' := mX5_isStyle) (mc' := 0) (ms' := 0) (As := [.int (0 : Int32), .int x]) dX5_series_2 gX5_series_X5_isStyle okX5_isStyle rfl rfl (Nat.le_of_ble_eq_true rfl) (Nat.le_of_ble_eq_true rfl) (Nat.le_refl _) (Nat.le_of_ble_eq_true rfl) (Nat.le_of_ble_eq_true rfl) ?_
  refine kX5_isStyle  ?_
  show xV _ _ _ _ _ _ _ _ _ _ _ _ _
  refine x_if_eq (tgt := 24) dX5_series_5 (by decide) (fun z9 => absurd z9 hx) (fun _ => ?_)
  refine x_iconst (v := 1) dX5_series_8 (by decide) ?_
  refine x_iload_n dX5_series_9 rfl ?_
  refine x_callS (M' := mX5_isStyle) (mc' := 0) (ms' := 0) (As := [.int (1 : Int32), .int y]) dX5_series_10 gX5_series_X5_isStyle okX5_isStyle rfl rfl (Nat.le_of_ble_eq_true rfl) (Nat.le_of_ble_eq_true rfl) (Nat.le_refl _) (Nat.le_of_ble_eq_true rfl) (Nat.le_of_ble_eq_true rfl) ?_
  refine kX5_isStyle  ?_
  show xV _ _ _ _ _ _ _ _ _ _ _ _ _
  refine x_if_eq (tgt := 24) dX5_series_13 (by decide) (fun z9 => absurd z9 hy) (fun _ => ?_)
  refine x_iconst (v := 2) dX5_series_16 (by decide) ?_
  refine x_iload_n dX5_series_17 rfl ?_
  refine x_callS (M' := mX5_isStyle) (mc' := 0) (ms' := 0) (As := [.int (2 : Int32), .int z]) dX5_series_18 gX5_series_X5_isStyle okX5_isStyle rfl rfl (Nat.le_of_ble_eq_true rfl) (Nat.le_of_ble_eq_true rfl) (Nat.le_refl _) (Nat.le_of_ble_eq_true rfl) (Nat.le_of_ble_eq_true rfl) ?_
  refine kX5_isStyle  ?_
  show xV _ _ _ _ _ _ _ _ _ _ _ _ _
  refine x_if_ne (tgt := 26) dX5_series_21 (by decide) (fun _ => ?_) (fun z9 => absurd z9 hz)
  refine x_aload_n dX5_series_26 rfl ?_
  refine x_get 1 dX5_series_27 hK.1 rfl (by decide) (by decide +kernel) rfl ?_
  refine x_callV (M' := mJx4a65c_size_8abf5) (mc' := 0) (ms' := 0) (As := []) dX5_series_30 gX5_series_Jx4a65c_size_8abf5 okJx4a65c_size_8abf5 rfl rfl hK.2.2.2.1 rfl (Nat.le_of_ble_eq_true rfl) (Nat.le_of_ble_eq_true rfl) (Nat.le_refl _) (Nat.le_of_ble_eq_true rfl) (Nat.le_of_ble_eq_true rfl) ?_
  refine kJx4a65c_size_8abf5 hK.2.2.2.1 ?_
  show xV _ _ _ _ _ _ _ _ _ _ _ _ _
  refine x_bipush (v := 6) dX5_series_33 (by decide) ?_
  refine x_icmp_lt (tgt := 41) dX5_series_35 (by decide) (fun _ => ?_) (fun z9 => absurd (nI_lt (a := N) (b := 6) (by omega) (by omega)) z9)
  refine x_aload_n dX5_series_41 rfl ?_
  refine x_get 1 dX5_series_42 hK.1 rfl (by decide) (by decide +kernel) rfl ?_
  refine x_newA (ci := 4) (fs := [.int (0 : Int32), .int (0 : Int32), .int (0 : Int32), .int (0 : Int32), .int (0 : Int32), .null, .null, .null, .null, .null, .null]) dX5_series_45 rfl (by decide +kernel) (by decide +kernel) (by decide +kernel) tyX3_ok (fun j hj => by rcases (show j = 0 ∨ j = 1 ∨ j = 2 ∨ j = 3 ∨ j = 4 ∨ j = 5 ∨ j = 6 ∨ j = 7 ∨ j = 8 ∨ j = 9 ∨ j = 10 by omega) with rfl | rfl | rfl | rfl | rfl | rfl | rfl | rfl | rfl | rfl | rfl <;> rfl) (Nat.le_of_ble_eq_true rfl) (Nat.le_of_ble_eq_true rfl) (fun b0 t_b0 u_b0 => ?_)
  refine x_dup dX5_series_48 rfl ?_
  refine x_aload_n dX5_series_49 rfl ?_
  refine x_get 0 dX5_series_50 (xup_k (Nat.ne_of_lt (t_b0 _ _ hK.1)) hK.1) rfl (by decide) (by decide +kernel) rfl ?_
  refine x_iload_n dX5_series_53 rfl ?_
  refine x_iload_n dX5_series_54 rfl ?_
  refine x_iload_n dX5_series_55 rfl ?_
  refine x_callI (M' := mX3_init) (mc' := 7) (ms' := 1379) (As := [.ref pg, .int x, .int y, .int z]) dX5_series_56 gX5_series_X3_init (by decide +kernel) (by decide +kernel) (by decide +kernel) rfl rfl okX3_init rfl rfl (Nat.le_of_ble_eq_true rfl) (Nat.le_of_ble_eq_true rfl) (Nat.le_refl _) (Nat.le_of_ble_eq_true rfl) (Nat.le_of_ble_eq_true rfl) ?_
  refine kX3_init xup_s (fun h1 b1 b2 b3 b4 b5 b6 b7 t_b1 u_b1 lb hS1 hF1 => ?_)
  have eB : ∀ k, k < N → ∀ j, (xBn B N b0 b1 b2 b3 b4 b5 b6 b7) k j = B k j := fun k hk j => if_neg (by omega)
  have hal1 := hF1 al _ (xup_k (Nat.ne_of_lt (t_b0 _ _ hK.2.2.2.1)) hK.2.2.2.1) (Nat.ne_of_lt (t_b0 _ _ hK.2.2.2.1))
  have la := t_b0 _ _ hK.2.2.2.1
  have hsc1 := hF1 sc _ (xup_k (Nat.ne_of_lt (t_b0 _ _ hK.1)) hK.1) (Nat.ne_of_lt (t_b0 _ _ hK.1))
  have F1 : ∀ b cc, h b = some cc → h1 b = some cc := fun b cc hb => hF1 b cc (xup_k (Nat.ne_of_lt (t_b0 _ _ hb)) hb) (Nat.ne_of_lt (t_b0 _ _ hb))
  have eBN : (xBn B N b0 b1 b2 b3 b4 b5 b6 b7) N = fun j => (match j with | 0 => b0 | 1 => b1 | 2 => b2 | 3 => b3 | 4 => b4 | 5 => b5 | 6 => b6 | _ => b7) := funext fun j => if_pos rfl
  show xV _ _ _ _ _ _ _ _ _ _ _ _ _
  refine x_callV (M' := mJx4a65c_add_9ea2d) (mc' := 1) (ms' := 10) (As := [.ref b0]) dX5_series_59 gX5_series_Jx4a65c_add_9ea2d okJx4a65c_add_9ea2d rfl rfl hal1 rfl (Nat.le_of_ble_eq_true rfl) (Nat.le_of_ble_eq_true rfl) (Nat.le_refl _) (Nat.le_of_ble_eq_true rfl) (Nat.le_of_ble_eq_true rfl) ?_
  have hed1 := F1 _ _ (hK.2.2.2.2.1 hN0)
  have led := t_b0 _ _ (hK.2.2.2.2.1 hN0)
  refine kJ_addB hal1 hed1 hS1.1 (by omega) (by omega) (Ne.symm hD.2.2.2.2.2.2.2.2.2) (by omega) (fun h2 ha2 he2 hF2 => ?_)
  have hsc2 := (hF2 sc hD.2.2.2.2.2.1.2.2.2.1 hD.2.2.2.2.2.1.2.2.2.2).trans hsc1
  show xV _ _ _ _ _ _ _ _ _ _ _ _ _
  refine x_pop dX5_series_62 rfl ?_
  refine x_aload_n dX5_series_63 rfl ?_
  refine x_get 1 dX5_series_64 hsc2 rfl (by decide) (by decide +kernel) rfl ?_
  refine x_callV (M' := mJx4a65c_size_8abf5) (mc' := 0) (ms' := 0) (As := []) dX5_series_67 gX5_series_Jx4a65c_size_8abf5 okJx4a65c_size_8abf5 rfl rfl ha2 rfl (Nat.le_of_ble_eq_true rfl) (Nat.le_of_ble_eq_true rfl) (Nat.le_refl _) (Nat.le_of_ble_eq_true rfl) (Nat.le_of_ble_eq_true rfl) ?_
  refine kJx4a65c_size_8abf5 ha2 ?_
  show xV _ _ _ _ _ _ _ _ _ _ _ _ _
  refine x_iconst (v := 1) dX5_series_70 (by decide) ?_
  refine x_isub dX5_series_71 ?_
  have eBN0 : (xBn B N b0 b1 b2 b3 b4 b5 b6 b7) N 0 = b0 := if_pos rfl
  have hKn := serK hK hD (h' := h2) (ed' := ed) (B' := (xBn B N b0 b1 b2 b3 b4 b5 b6 b7)) (I' := (x, y, z, 0, 1)) (V' := fun _ _ => 0) (fun b cc hb e1 e2 => (hF2 b e1 e2).trans (F1 b cc hb)) (by rw [ha2, nI_1]) (by rw [he2, nI_clamp (by omega), ← xSl_n eB]; rw [eBN0]) hN6 eB (by rw [eBN]; exact ⟨(hF2 b0 (by omega) (by omega)).trans hS1.1, (hF2 b1 (by omega) (by omega)).trans hS1.2.1, (hF2 b2 (by omega) (by omega)).trans hS1.2.2.1, (hF2 b3 (by omega) (by omega)).trans hS1.2.2.2.1, (hF2 b4 (by omega) (by omega)).trans hS1.2.2.2.2.1, (hF2 b5 (by omega) (by omega)).trans hS1.2.2.2.2.2.1, (hF2 b6 (by omega) (by omega)).trans hS1.2.2.2.2.2.2.1, (hF2 b7 (by omega) (by omega)).trans hS1.2.2.2.2.2.2.2⟩)
  exact x_iret dX5_series_72 rfl (xri (by rw [nI_1, nI_pred]) (hQ h2 (xBn B N b0 b1 b2 b3 b4 b5 b6 b7) ed _ eB (by rw [eBN]; exact t_b0) (by rw [eBN]; exact u_b0) ⟨(by rw [eBN]; exact lb.1), (by rw [eBN]; exact lb.2.1), (by rw [eBN]; exact lb.2.2.1), (by rw [eBN]; exact lb.2.2.2.1), (by rw [eBN]; exact lb.2.2.2.2.1), (by rw [eBN]; exact lb.2.2.2.2.2.1), (by rw [eBN]; exact lb.2.2.2.2.2.2)⟩ (Or.inr rfl) hKn (fun b cc hb e1 e2 => (hF2 b e1 e2).trans (F1 b cc hb)))) (Nat.le_of_ble_eq_true rfl) (Nat.le_of_ble_eq_true rfl)
