set_option maxHeartbeats 4000000 in
set_option maxRecDepth 100000 in
theorem kX6_init {G : xG} {l : Launch} {d : Nat} {h : xH} {Q : Option Value → xH → Prop} {a0 : Nat} (ha : h a0 = some (xOb 7 [.int (0 : Int32), .int (0 : Int32), .null, .null, .null, .null, .null, .int (0 : Int32), .null, .null, .null, .null, .null, .null, .null, .null, .int (0 : Int32), .null, .null, .null, .null, .null, .int (0 : Int32), .null, .null, .null])) (hQ : ∀ (h' : xH) (a2 a3 a4 a5 a6 a8 a9 a10 a11 a12 a13 a14 a15 a17 a18 a19 a20 a21 a23 a24 a25 : Nat), xTop h a2 → xB G ≤ a2 → (a0 < a2 ∧ a2 < a3 ∧ a3 < a4 ∧ a4 < a5 ∧ a5 < a6 ∧ a6 < a8 ∧ a8 < a9 ∧ a9 < a10 ∧ a10 < a11 ∧ a11 < a12 ∧ a12 < a13 ∧ a13 < a14 ∧ a14 < a15 ∧ a15 < a17 ∧ a17 < a18 ∧ a18 < a19 ∧ a19 < a20 ∧ a20 < a21 ∧ a21 < a23 ∧ a23 < a24 ∧ a24 < a25) → (h' a0 = some (xOb 7 [.int 20, .int 8, .ref a2, .ref a3, .ref a4, .ref a5, .ref a6, .int 0, .ref a8, .ref a9, .ref a10, .ref a11, .ref a12, .ref a13, .ref a14, .ref a15, .int 0, .ref a17, .ref a18, .ref a19, .ref a20, .ref a21, .int 0, .ref a23, .ref a24, .ref a25]) ∧ h' a2 = some (xRi G 2 (fun _ => 0)) ∧ h' a3 = some (xRi G 2 (fun _ => 0)) ∧ h' a4 = some (xRi G 2 (upd (upd (fun _ => 0) (Int32.toNatClampNeg (0 : Int32)) (10 : Int32)) (Int32.toNatClampNeg (1 : Int32)) (10 : Int32))) ∧ h' a5 = some (xRi G 2 (fun _ => 0)) ∧ h' a6 = some (xRi G 2 (fun _ => 0)) ∧ h' a8 = some (xRi G 6 (fun _ => 0)) ∧ h' a9 = some (xRi G 6 (fun _ => 0)) ∧ h' a10 = some (xRi G 6 (fun _ => 0)) ∧ h' a11 = some (xRi G 6 (fun _ => 0)) ∧ h' a12 = some (xRi G 144 (fun _ => 0)) ∧ h' a13 = some (xRi G 144 (fun _ => 0)) ∧ h' a14 = some (xRi G 144 (fun _ => 0)) ∧ h' a15 = some (xRz G 144 (fun _ => 0)) ∧ h' a17 = some (xRi G 20 (fun _ => 0)) ∧ h' a18 = some (xRi G 20 (fun _ => 0)) ∧ h' a19 = some (xRi G 20 (fun _ => 0)) ∧ h' a20 = some (xRi G 20 (fun _ => 0)) ∧ h' a21 = some (xRi G 20 (fun _ => 0)) ∧ h' a23 = some (xRi G 3840 (fun _ => 0)) ∧ h' a24 = some (xRi G 3840 (fun _ => 0)) ∧ h' a25 = some (xRi G 24 (fun _ => 0))) → (∀ b cc, h b = some cc → b ≠ a0 → h' b = some cc) → Q none h') : xV G l mX6_init (d + 1) 21 8414 0 0 0 [.ref a0] [] h Q := by
  refine x_aload_n dX6_init_0 rfl ?_
  refine x_objInit dX6_init_1 (by decide +kernel) (by decide +kernel) (by decide +kernel) (Nat.le_of_ble_eq_true rfl) (by omega) ?_
  refine x_aload_n dX6_init_4 rfl ?_
  refine x_bipush (v := 20) dX6_init_5 (by decide) ?_
  refine x_put 0 dX6_init_7 ha rfl (by decide) (by decide +kernel) rfl rfl rfl rfl (Nat.le_of_ble_eq_true rfl) ?_
  refine x_aload_n dX6_init_10 rfl ?_
  refine x_bipush (v := 8) dX6_init_11 (by decide) ?_
  refine x_put 1 dX6_init_13 xup_s rfl (by decide) (by decide +kernel) rfl rfl rfl rfl (Nat.le_of_ble_eq_true rfl) ?_
  refine x_heap xup_u ?_
  refine x_aload_n dX6_init_16 rfl ?_
  refine x_iconst (v := 2) dX6_init_17 (by decide) ?_
  refine x_newIA (N := 2) dX6_init_18 (by decide +kernel) (by decide) (by decide) (by decide) (Nat.le_of_ble_eq_true rfl) (Nat.le_of_ble_eq_true rfl) (fun a2 t_a2 u_a2 => ?_)
  have l_a2 : a0 < a2 := t_a2 _ _ xup_s
  refine x_putF 2 dX6_init_20 (xup_k (by omega) xup_s) rfl (by decide) (by decide +kernel) rfl rfl rfl rfl rfl rfl (Nat.le_of_ble_eq_true rfl) ?_
  refine x_aload_n dX6_init_23 rfl ?_
  refine x_iconst (v := 2) dX6_init_24 (by decide) ?_
  refine x_newIA (N := 2) dX6_init_25 (by decide +kernel) (by decide) (by decide) (by decide) (Nat.le_of_ble_eq_true rfl) (Nat.le_of_ble_eq_true rfl) (fun a3 t_a3 u_a3 => ?_)
  have l_a3 : a2 < a3 := t_a3 _ _ (xup_k (by omega) xup_s)
  refine x_putF 3 dX6_init_27 (xup_k (by omega) xup_s) rfl (by decide) (by decide +kernel) rfl rfl rfl rfl rfl rfl (Nat.le_of_ble_eq_true rfl) ?_
  refine x_aload_n dX6_init_30 rfl ?_
  refine x_iconst (v := 2) dX6_init_31 (by decide) ?_
  refine x_newIA (N := 2) dX6_init_32 (by decide +kernel) (by decide) (by decide) (by decide) (Nat.le_of_ble_eq_true rfl) (Nat.le_of_ble_eq_true rfl) (fun a4 t_a4 u_a4 => ?_)
  have l_a4 : a3 < a4 := t_a4 _ _ (xup_k (by omega) xup_s)
  refine x_dup dX6_init_34 rfl ?_
  refine x_iconst (v := 0) dX6_init_35 (by decide) ?_
  refine x_bipush (v := 10) dX6_init_36 (by decide) ?_
  refine x_iast dX6_init_38 xup_s ax0 ?_
  refine x_heap xup_u ?_
  refine x_dup dX6_init_39 rfl ?_
  refine x_iconst (v := 1) dX6_init_40 (by decide) ?_
  refine x_bipush (v := 10) dX6_init_41 (by decide) ?_
  refine x_iast dX6_init_43 xup_s ax1 ?_
  refine x_heap xup_u ?_
  refine x_putF 4 dX6_init_44 (xup_k (by omega) xup_s) rfl (by decide) (by decide +kernel) rfl rfl rfl rfl rfl rfl (Nat.le_of_ble_eq_true rfl) ?_
  refine x_aload_n dX6_init_47 rfl ?_
  refine x_iconst (v := 2) dX6_init_48 (by decide) ?_
  refine x_newIA (N := 2) dX6_init_49 (by decide +kernel) (by decide) (by decide) (by decide) (Nat.le_of_ble_eq_true rfl) (Nat.le_of_ble_eq_true rfl) (fun a5 t_a5 u_a5 => ?_)
  have l_a5 : a4 < a5 := t_a5 _ _ (xup_k (by omega) xup_s)
  refine x_putF 5 dX6_init_51 (xup_k (by omega) xup_s) rfl (by decide) (by decide +kernel) rfl rfl rfl rfl rfl rfl (Nat.le_of_ble_eq_true rfl) ?_
  refine x_aload_n dX6_init_54 rfl ?_
  refine x_iconst (v := 2) dX6_init_55 (by decide) ?_
  refine x_newIA (N := 2) dX6_init_56 (by decide +kernel) (by decide) (by decide) (by decide) (Nat.le_of_ble_eq_true rfl) (Nat.le_of_ble_eq_true rfl) (fun a6 t_a6 u_a6 => ?_)
  have l_a6 : a5 < a6 := t_a6 _ _ (xup_k (by omega) xup_s)
  refine x_putF 6 dX6_init_58 (xup_k (by omega) xup_s) rfl (by decide) (by decide +kernel) rfl rfl rfl rfl rfl rfl (Nat.le_of_ble_eq_true rfl) ?_
  refine x_aload_n dX6_init_61 rfl ?_
  refine x_bipush (v := 6) dX6_init_62 (by decide) ?_
  refine x_newIA (N := 6) dX6_init_64 (by decide +kernel) (by decide) (by decide) (by decide) (Nat.le_of_ble_eq_true rfl) (Nat.le_of_ble_eq_true rfl) (fun a8 t_a8 u_a8 => ?_)
  have l_a8 : a6 < a8 := t_a8 _ _ (xup_k (by omega) xup_s)
  refine x_putF 8 dX6_init_66 (xup_k (by omega) xup_s) rfl (by decide) (by decide +kernel) rfl rfl rfl rfl rfl rfl (Nat.le_of_ble_eq_true rfl) ?_
  refine x_aload_n dX6_init_69 rfl ?_
  refine x_bipush (v := 6) dX6_init_70 (by decide) ?_
  refine x_newIA (N := 6) dX6_init_72 (by decide +kernel) (by decide) (by decide) (by decide) (Nat.le_of_ble_eq_true rfl) (Nat.le_of_ble_eq_true rfl) (fun a9 t_a9 u_a9 => ?_)
  have l_a9 : a8 < a9 := t_a9 _ _ (xup_k (by omega) xup_s)
  refine x_putF 9 dX6_init_74 (xup_k (by omega) xup_s) rfl (by decide) (by decide +kernel) rfl rfl rfl rfl rfl rfl (Nat.le_of_ble_eq_true rfl) ?_
  refine x_aload_n dX6_init_77 rfl ?_
  refine x_bipush (v := 6) dX6_init_78 (by decide) ?_
  refine x_newIA (N := 6) dX6_init_80 (by decide +kernel) (by decide) (by decide) (by decide) (Nat.le_of_ble_eq_true rfl) (Nat.le_of_ble_eq_true rfl) (fun a10 t_a10 u_a10 => ?_)
  have l_a10 : a9 < a10 := t_a10 _ _ (xup_k (by omega) xup_s)
  refine x_putF 10 dX6_init_82 (xup_k (by omega) xup_s) rfl (by decide) (by decide +kernel) rfl rfl rfl rfl rfl rfl (Nat.le_of_ble_eq_true rfl) ?_
  refine x_aload_n dX6_init_85 rfl ?_
  refine x_bipush (v := 6) dX6_init_86 (by decide) ?_
  refine x_newIA (N := 6) dX6_init_88 (by decide +kernel) (by decide) (by decide) (by decide) (Nat.le_of_ble_eq_true rfl) (Nat.le_of_ble_eq_true rfl) (fun a11 t_a11 u_a11 => ?_)
  have l_a11 : a10 < a11 := t_a11 _ _ (xup_k (by omega) xup_s)
  refine x_putF 11 dX6_init_90 (xup_k (by omega) xup_s) rfl (by decide) (by decide +kernel) rfl rfl rfl rfl rfl rfl (Nat.le_of_ble_eq_true rfl) ?_
  refine x_aload_n dX6_init_93 rfl ?_
  refine x_sipush (v := 144) dX6_init_94 (by decide) ?_
  refine x_newIA (N := 144) dX6_init_97 (by decide +kernel) (by decide) (by decide) (by decide) (Nat.le_of_ble_eq_true rfl) (Nat.le_of_ble_eq_true rfl) (fun a12 t_a12 u_a12 => ?_)
  have l_a12 : a11 < a12 := t_a12 _ _ (xup_k (by omega) xup_s)
  refine x_putF 12 dX6_init_99 (xup_k (by omega) xup_s) rfl (by decide) (by decide +kernel) rfl rfl rfl rfl rfl rfl (Nat.le_of_ble_eq_true rfl) ?_
  refine x_aload_n dX6_init_102 rfl ?_
  refine x_sipush (v := 144) dX6_init_103 (by decide) ?_
  refine x_newIA (N := 144) dX6_init_106 (by decide +kernel) (by decide) (by decide) (by decide) (Nat.le_of_ble_eq_true rfl) (Nat.le_of_ble_eq_true rfl) (fun a13 t_a13 u_a13 => ?_)
  have l_a13 : a12 < a13 := t_a13 _ _ (xup_k (by omega) xup_s)
  refine x_putF 13 dX6_init_108 (xup_k (by omega) xup_s) rfl (by decide) (by decide +kernel) rfl rfl rfl rfl rfl rfl (Nat.le_of_ble_eq_true rfl) ?_
  refine x_aload_n dX6_init_111 rfl ?_
  refine x_sipush (v := 144) dX6_init_112 (by decide) ?_
  refine x_newIA (N := 144) dX6_init_115 (by decide +kernel) (by decide) (by decide) (by decide) (Nat.le_of_ble_eq_true rfl) (Nat.le_of_ble_eq_true rfl) (fun a14 t_a14 u_a14 => ?_)
  have l_a14 : a13 < a14 := t_a14 _ _ (xup_k (by omega) xup_s)
  refine x_putF 14 dX6_init_117 (xup_k (by omega) xup_s) rfl (by decide) (by decide +kernel) rfl rfl rfl rfl rfl rfl (Nat.le_of_ble_eq_true rfl) ?_
  refine x_aload_n dX6_init_120 rfl ?_
  refine x_sipush (v := 144) dX6_init_121 (by decide) ?_
  refine x_newZA (N := 144) dX6_init_124 (by decide +kernel) (by decide) (by decide) (by decide) (Nat.le_of_ble_eq_true rfl) (Nat.le_of_ble_eq_true rfl) (fun a15 t_a15 u_a15 => ?_)
  have l_a15 : a14 < a15 := t_a15 _ _ (xup_k (by omega) xup_s)
  refine x_putF 15 dX6_init_126 (xup_k (by omega) xup_s) rfl (by decide) (by decide +kernel) rfl rfl rfl rfl rfl rfl (Nat.le_of_ble_eq_true rfl) ?_
  refine x_aload_n dX6_init_129 rfl ?_
  refine x_bipush (v := 20) dX6_init_130 (by decide) ?_
  refine x_newIA (N := 20) dX6_init_132 (by decide +kernel) (by decide) (by decide) (by decide) (Nat.le_of_ble_eq_true rfl) (Nat.le_of_ble_eq_true rfl) (fun a17 t_a17 u_a17 => ?_)
  have l_a17 : a15 < a17 := t_a17 _ _ (xup_k (by omega) xup_s)
  refine x_putF 17 dX6_init_134 (xup_k (by omega) xup_s) rfl (by decide) (by decide +kernel) rfl rfl rfl rfl rfl rfl (Nat.le_of_ble_eq_true rfl) ?_
  refine x_aload_n dX6_init_137 rfl ?_
  refine x_bipush (v := 20) dX6_init_138 (by decide) ?_
  refine x_newIA (N := 20) dX6_init_140 (by decide +kernel) (by decide) (by decide) (by decide) (Nat.le_of_ble_eq_true rfl) (Nat.le_of_ble_eq_true rfl) (fun a18 t_a18 u_a18 => ?_)
  have l_a18 : a17 < a18 := t_a18 _ _ (xup_k (by omega) xup_s)
  refine x_putF 18 dX6_init_142 (xup_k (by omega) xup_s) rfl (by decide) (by decide +kernel) rfl rfl rfl rfl rfl rfl (Nat.le_of_ble_eq_true rfl) ?_
  refine x_aload_n dX6_init_145 rfl ?_
  refine x_bipush (v := 20) dX6_init_146 (by decide) ?_
  refine x_newIA (N := 20) dX6_init_148 (by decide +kernel) (by decide) (by decide) (by decide) (Nat.le_of_ble_eq_true rfl) (Nat.le_of_ble_eq_true rfl) (fun a19 t_a19 u_a19 => ?_)
  have l_a19 : a18 < a19 := t_a19 _ _ (xup_k (by omega) xup_s)
  refine x_putF 19 dX6_init_150 (xup_k (by omega) xup_s) rfl (by decide) (by decide +kernel) rfl rfl rfl rfl rfl rfl (Nat.le_of_ble_eq_true rfl) ?_
  refine x_aload_n dX6_init_153 rfl ?_
  refine x_bipush (v := 20) dX6_init_154 (by decide) ?_
  refine x_newIA (N := 20) dX6_init_156 (by decide +kernel) (by decide) (by decide) (by decide) (Nat.le_of_ble_eq_true rfl) (Nat.le_of_ble_eq_true rfl) (fun a20 t_a20 u_a20 => ?_)
  have l_a20 : a19 < a20 := t_a20 _ _ (xup_k (by omega) xup_s)
  refine x_putF 20 dX6_init_158 (xup_k (by omega) xup_s) rfl (by decide) (by decide +kernel) rfl rfl rfl rfl rfl rfl (Nat.le_of_ble_eq_true rfl) ?_
  refine x_aload_n dX6_init_161 rfl ?_
  refine x_bipush (v := 20) dX6_init_162 (by decide) ?_
  refine x_newIA (N := 20) dX6_init_164 (by decide +kernel) (by decide) (by decide) (by decide) (Nat.le_of_ble_eq_true rfl) (Nat.le_of_ble_eq_true rfl) (fun a21 t_a21 u_a21 => ?_)
  have l_a21 : a20 < a21 := t_a21 _ _ (xup_k (by omega) xup_s)
  refine x_putF 21 dX6_init_166 (xup_k (by omega) xup_s) rfl (by decide) (by decide +kernel) rfl rfl rfl rfl rfl rfl (Nat.le_of_ble_eq_true rfl) ?_
  refine x_aload_n dX6_init_169 rfl ?_
  refine x_sipush (v := 3840) dX6_init_170 (by decide) ?_
  refine x_newIA (N := 3840) dX6_init_173 (by decide +kernel) (by decide) (by decide) (by decide) (Nat.le_of_ble_eq_true rfl) (Nat.le_of_ble_eq_true rfl) (fun a23 t_a23 u_a23 => ?_)
  have l_a23 : a21 < a23 := t_a23 _ _ (xup_k (by omega) xup_s)
  refine x_putF 23 dX6_init_175 (xup_k (by omega) xup_s) rfl (by decide) (by decide +kernel) rfl rfl rfl rfl rfl rfl (Nat.le_of_ble_eq_true rfl) ?_
  refine x_aload_n dX6_init_178 rfl ?_
  refine x_sipush (v := 3840) dX6_init_179 (by decide) ?_
  refine x_newIA (N := 3840) dX6_init_182 (by decide +kernel) (by decide) (by decide) (by decide) (Nat.le_of_ble_eq_true rfl) (Nat.le_of_ble_eq_true rfl) (fun a24 t_a24 u_a24 => ?_)
  have l_a24 : a23 < a24 := t_a24 _ _ (xup_k (by omega) xup_s)
  refine x_putF 24 dX6_init_184 (xup_k (by omega) xup_s) rfl (by decide) (by decide +kernel) rfl rfl rfl rfl rfl rfl (Nat.le_of_ble_eq_true rfl) ?_
  refine x_aload_n dX6_init_187 rfl ?_
  refine x_bipush (v := 24) dX6_init_188 (by decide) ?_
  refine x_newIA (N := 24) dX6_init_190 (by decide +kernel) (by decide) (by decide) (by decide) (Nat.le_of_ble_eq_true rfl) (Nat.le_of_ble_eq_true rfl) (fun a25 t_a25 u_a25 => ?_)
  have l_a25 : a24 < a25 := t_a25 _ _ (xup_k (by omega) xup_s)
  refine x_putF 25 dX6_init_192 (xup_k (by omega) xup_s) rfl (by decide) (by decide +kernel) rfl rfl rfl rfl rfl rfl (Nat.le_of_ble_eq_true rfl) ?_
  refine x_aload_n dX6_init_195 rfl ?_
  refine x_iconst (v := 0) dX6_init_196 (by decide) ?_
  refine x_put 7 dX6_init_197 xup_s rfl (by decide) (by decide +kernel) rfl rfl rfl rfl (Nat.le_of_ble_eq_true rfl) ?_
  refine x_heap xup_u ?_
  exact x_vret dX6_init_200 rfl (hQ _ a2 a3 a4 a5 a6 a8 a9 a10 a11 a12 a13 a14 a15 a17 a18 a19 a20 a21 a23 a24 a25 t_a2.of u_a2 ⟨l_a2, l_a3, l_a4, l_a5, l_a6, l_a8, l_a9, l_a10, l_a11, l_a12, l_a13, l_a14, l_a15, l_a17, l_a18, l_a19, l_a20, l_a21, l_a23, l_a24, l_a25⟩ ⟨xup_s, (xup_k (by omega) (xup_k (by omega) (xup_k (by omega) (xup_k (by omega) (xup_k (by omega) (xup_k (by omega) (xup_k (by omega) (xup_k (by omega) (xup_k (by omega) (xup_k (by omega) (xup_k (by omega) (xup_k (by omega) (xup_k (by omega) (xup_k (by omega) (xup_k (by omega) (xup_k (by omega) (xup_k (by omega) (xup_k (by omega) (xup_k (by omega) (xup_k (by omega) (xup_k (by omega) (xup_k (by omega) (xup_k (by omega) (xup_k (by omega) (xup_k (by omega) (xup_k (by omega) (xup_k (by omega) (xup_k (by omega) (xup_k (by omega) (xup_k (by omega) (xup_k (by omega) (xup_k (by omega) (xup_k (by omega) (xup_k (by omega) (xup_k (by omega) (xup_k (by omega) (xup_k (by omega) (xup_k (by omega) (xup_k (by omega) (xup_k (by omega) (xup_k (by omega) xup_s))))))))))))))))))))))))))))))))))))))))), (xup_k (by omega) (xup_k (by omega) (xup_k (by omega) (xup_k (by omega) (xup_k (by omega) (xup_k (by omega) (xup_k (by omega) (xup_k (by omega) (xup_k (by omega) (xup_k (by omega) (xup_k (by omega) (xup_k (by omega) (xup_k (by omega) (xup_k (by omega) (xup_k (by omega) (xup_k (by omega) (xup_k (by omega) (xup_k (by omega) (xup_k (by omega) (xup_k (by omega) (xup_k (by omega) (xup_k (by omega) (xup_k (by omega) (xup_k (by omega) (xup_k (by omega) (xup_k (by omega) (xup_k (by omega) (xup_k (by omega) (xup_k (by omega) (xup_k (by omega) (xup_k (by omega) (xup_k (by omega) (xup_k (by omega) (xup_k (by omega) (xup_k (by omega) (xup_k (by omega) (xup_k (by omega) (xup_k (by omega) (xup_k (by omega) xup_s))))))))))))))))))))))))))))))))))))))), (xup_k (by omega) (xup_k (by omega) (xup_k (by omega) (xup_k (by omega) (xup_k (by omega) (xup_k (by omega) (xup_k (by omega) (xup_k (by omega) (xup_k (by omega) (xup_k (by omega) (xup_k (by omega) (xup_k (by omega) (xup_k (by omega) (xup_k (by omega) (xup_k (by omega) (xup_k (by omega) (xup_k (by omega) (xup_k (by omega) (xup_k (by omega) (xup_k (by omega) (xup_k (by omega) (xup_k (by omega) (xup_k (by omega) (xup_k (by omega) (xup_k (by omega) (xup_k (by omega) (xup_k (by omega) (xup_k (by omega) (xup_k (by omega) (xup_k (by omega) (xup_k (by omega) (xup_k (by omega) (xup_k (by omega) (xup_k (by omega) (xup_k (by omega) (xup_k (by omega) (xup_k (by omega) xup_s))))))))))))))))))))))))))))))))))))), (xup_k (by omega) (xup_k (by omega) (xup_k (by omega) (xup_k (by omega) (xup_k (by omega) (xup_k (by omega) (xup_k (by omega) (xup_k (by omega) (xup_k (by omega) (xup_k (by omega) (xup_k (by omega) (xup_k (by omega) (xup_k (by omega) (xup_k (by omega) (xup_k (by omega) (xup_k (by omega) (xup_k (by omega) (xup_k (by omega) (xup_k (by omega) (xup_k (by omega) (xup_k (by omega) (xup_k (by omega) (xup_k (by omega) (xup_k (by omega) (xup_k (by omega) (xup_k (by omega) (xup_k (by omega) (xup_k (by omega) (xup_k (by omega) (xup_k (by omega) (xup_k (by omega) (xup_k (by omega) (xup_k (by omega) (xup_k (by omega) (xup_k (by omega) xup_s))))))))))))))))))))))))))))))))))), (xup_k (by omega) (xup_k (by omega) (xup_k (by omega) (xup_k (by omega) (xup_k (by omega) (xup_k (by omega) (xup_k (by omega) (xup_k (by omega) (xup_k (by omega) (xup_k (by omega) (xup_k (by omega) (xup_k (by omega) (xup_k (by omega) (xup_k (by omega) (xup_k (by omega) (xup_k (by omega) (xup_k (by omega) (xup_k (by omega) (xup_k (by omega) (xup_k (by omega) (xup_k (by omega) (xup_k (by omega) (xup_k (by omega) (xup_k (by omega) (xup_k (by omega) (xup_k (by omega) (xup_k (by omega) (xup_k (by omega) (xup_k (by omega) (xup_k (by omega) (xup_k (by omega) (xup_k (by omega) (xup_k (by omega) xup_s))))))))))))))))))))))))))))))))), (xup_k (by omega) (xup_k (by omega) (xup_k (by omega) (xup_k (by omega) (xup_k (by omega) (xup_k (by omega) (xup_k (by omega) (xup_k (by omega) (xup_k (by omega) (xup_k (by omega) (xup_k (by omega) (xup_k (by omega) (xup_k (by omega) (xup_k (by omega) (xup_k (by omega) (xup_k (by omega) (xup_k (by omega) (xup_k (by omega) (xup_k (by omega) (xup_k (by omega) (xup_k (by omega) (xup_k (by omega) (xup_k (by omega) (xup_k (by omega) (xup_k (by omega) (xup_k (by omega) (xup_k (by omega) (xup_k (by omega) (xup_k (by omega) (xup_k (by omega) (xup_k (by omega) xup_s))))))))))))))))))))))))))))))), (xup_k (by omega) (xup_k (by omega) (xup_k (by omega) (xup_k (by omega) (xup_k (by omega) (xup_k (by omega) (xup_k (by omega) (xup_k (by omega) (xup_k (by omega) (xup_k (by omega) (xup_k (by omega) (xup_k (by omega) (xup_k (by omega) (xup_k (by omega) (xup_k (by omega) (xup_k (by omega) (xup_k (by omega) (xup_k (by omega) (xup_k (by omega) (xup_k (by omega) (xup_k (by omega) (xup_k (by omega) (xup_k (by omega) (xup_k (by omega) (xup_k (by omega) (xup_k (by omega) (xup_k (by omega) (xup_k (by omega) (xup_k (by omega) xup_s))))))))))))))))))))))))))))), (xup_k (by omega) (xup_k (by omega) (xup_k (by omega) (xup_k (by omega) (xup_k (by omega) (xup_k (by omega) (xup_k (by omega) (xup_k (by omega) (xup_k (by omega) (xup_k (by omega) (xup_k (by omega) (xup_k (by omega) (xup_k (by omega) (xup_k (by omega) (xup_k (by omega) (xup_k (by omega) (xup_k (by omega) (xup_k (by omega) (xup_k (by omega) (xup_k (by omega) (xup_k (by omega) (xup_k (by omega) (xup_k (by omega) (xup_k (by omega) (xup_k (by omega) (xup_k (by omega) (xup_k (by omega) xup_s))))))))))))))))))))))))))), (xup_k (by omega) (xup_k (by omega) (xup_k (by omega) (xup_k (by omega) (xup_k (by omega) (xup_k (by omega) (xup_k (by omega) (xup_k (by omega) (xup_k (by omega) (xup_k (by omega) (xup_k (by omega) (xup_k (by omega) (xup_k (by omega) (xup_k (by omega) (xup_k (by omega) (xup_k (by omega) (xup_k (by omega) (xup_k (by omega) (xup_k (by omega) (xup_k (by omega) (xup_k (by omega) (xup_k (by omega) (xup_k (by omega) (xup_k (by omega) (xup_k (by omega) xup_s))))))))))))))))))))))))), (xup_k (by omega) (xup_k (by omega) (xup_k (by omega) (xup_k (by omega) (xup_k (by omega) (xup_k (by omega) (xup_k (by omega) (xup_k (by omega) (xup_k (by omega) (xup_k (by omega) (xup_k (by omega) (xup_k (by omega) (xup_k (by omega) (xup_k (by omega) (xup_k (by omega) (xup_k (by omega) (xup_k (by omega) (xup_k (by omega) (xup_k (by omega) (xup_k (by omega) (xup_k (by omega) (xup_k (by omega) (xup_k (by omega) xup_s))))))))))))))))))))))), (xup_k (by omega) (xup_k (by omega) (xup_k (by omega) (xup_k (by omega) (xup_k (by omega) (xup_k (by omega) (xup_k (by omega) (xup_k (by omega) (xup_k (by omega) (xup_k (by omega) (xup_k (by omega) (xup_k (by omega) (xup_k (by omega) (xup_k (by omega) (xup_k (by omega) (xup_k (by omega) (xup_k (by omega) (xup_k (by omega) (xup_k (by omega) (xup_k (by omega) (xup_k (by omega) xup_s))))))))))))))))))))), (xup_k (by omega) (xup_k (by omega) (xup_k (by omega) (xup_k (by omega) (xup_k (by omega) (xup_k (by omega) (xup_k (by omega) (xup_k (by omega) (xup_k (by omega) (xup_k (by omega) (xup_k (by omega) (xup_k (by omega) (xup_k (by omega) (xup_k (by omega) (xup_k (by omega) (xup_k (by omega) (xup_k (by omega) (xup_k (by omega) (xup_k (by omega) xup_s))))))))))))))))))), (xup_k (by omega) (xup_k (by omega) (xup_k (by omega) (xup_k (by omega) (xup_k (by omega) (xup_k (by omega) (xup_k (by omega) (xup_k (by omega) (xup_k (by omega) (xup_k (by omega) (xup_k (by omega) (xup_k (by omega) (xup_k (by omega) (xup_k (by omega) (xup_k (by omega) (xup_k (by omega) (xup_k (by omega) xup_s))))))))))))))))), (xup_k (by omega) (xup_k (by omega) (xup_k (by omega) (xup_k (by omega) (xup_k (by omega) (xup_k (by omega) (xup_k (by omega) (xup_k (by omega) (xup_k (by omega) (xup_k (by omega) (xup_k (by omega) (xup_k (by omega) (xup_k (by omega) (xup_k (by omega) (xup_k (by omega) xup_s))))))))))))))), (xup_k (by omega) (xup_k (by omega) (xup_k (by omega) (xup_k (by omega) (xup_k (by omega) (xup_k (by omega) (xup_k (by omega) (xup_k (by omega) (xup_k (by omega) (xup_k (by omega) (xup_k (by omega) (xup_k (by omega) (xup_k (by omega) xup_s))))))))))))), (xup_k (by omega) (xup_k (by omega) (xup_k (by omega) (xup_k (by omega) (xup_k (by omega) (xup_k (by omega) (xup_k (by omega) (xup_k (by omega) (xup_k (by omega) (xup_k (by omega) (xup_k (by omega) xup_s))))))))))), (xup_k (by omega) (xup_k (by omega) (xup_k (by omega) (xup_k (by omega) (xup_k (by omega) (xup_k (by omega) (xup_k (by omega) (xup_k (by omega) (xup_k (by omega) xup_s))))))))), (xup_k (by omega) (xup_k (by omega) (xup_k (by omega) (xup_k (by omega) (xup_k (by omega) (xup_k (by omega) (xup_k (by omega) xup_s))))))), (xup_k (by omega) (xup_k (by omega) (xup_k (by omega) (xup_k (by omega) (xup_k (by omega) xup_s))))), (xup_k (by omega) (xup_k (by omega) (xup_k (by omega) xup_s))), (xup_k (by omega) xup_s)⟩ (fun b cc hb e0 => by
      have q1 := t_a2.of b _ hb
      rw [xup_n e0, xup_n (show b ≠ a25 by omega), xup_n e0, xup_n (show b ≠ a24 by omega), xup_n e0, xup_n (show b ≠ a23 by omega), xup_n e0, xup_n (show b ≠ a21 by omega), xup_n e0, xup_n (show b ≠ a20 by omega), xup_n e0, xup_n (show b ≠ a19 by omega), xup_n e0, xup_n (show b ≠ a18 by omega), xup_n e0, xup_n (show b ≠ a17 by omega), xup_n e0, xup_n (show b ≠ a15 by omega), xup_n e0, xup_n (show b ≠ a14 by omega), xup_n e0, xup_n (show b ≠ a13 by omega), xup_n e0, xup_n (show b ≠ a12 by omega), xup_n e0, xup_n (show b ≠ a11 by omega), xup_n e0, xup_n (show b ≠ a10 by omega), xup_n e0, xup_n (show b ≠ a9 by omega), xup_n e0, xup_n (show b ≠ a8 by omega), xup_n e0, xup_n (show b ≠ a6 by omega), xup_n e0, xup_n (show b ≠ a5 by omega), xup_n e0, xup_n (show b ≠ a4 by omega), xup_n e0, xup_n (show b ≠ a3 by omega), xup_n e0, xup_n (show b ≠ a2 by omega), xup_n e0]
      exact hb)) (Nat.le_of_ble_eq_true rfl) (Nat.le_of_ble_eq_true rfl)
