/-! THE LAW: from its entry to its loop -/
theorem wl1 : Cond.classLink RL 7 RX5 ∈ wsL_law := by decide +kernel
theorem wl2 : Cond.instantiable RX5 3 ∈ wsL_law := by decide +kernel
theorem wl3 : Cond.initialized RX5 ∈ wsL_law := by decide +kernel
theorem wl4 : Cond.methodLink RL 9 yX5_init ∈ wsL_law := by decide +kernel
theorem wl5 : Cond.instanceMethod yX5_init ∈ wsL_law := by decide +kernel
theorem wl6 : Cond.classLink RL 10 RX6 ∈ wsL_law := by decide +kernel
theorem wl7 : Cond.instantiable RX6 26 ∈ wsL_law := by decide +kernel
theorem wl8 : Cond.initialized RX6 ∈ wsL_law := by decide +kernel
theorem wl9 : Cond.methodLink RL 12 yX6_init ∈ wsL_law := by decide +kernel
theorem wl10 : Cond.instanceMethod yX6_init ∈ wsL_law := by decide +kernel
section ZL4
variable {P : State → Prop} {G : xG} {l : Launch} {b sl : Nat} {xs : Nat → Int32} {nm : String} {Q : Option Value → xH → Prop}
set_option maxHeartbeats 4000000 in
theorem kL_law (hs : ∀ s : State, P s → xK G s → va_T .int b sl (fun j => .int (xs j)) (fun q => xB G ≤ q) s (xH0 G)) (hT3 : xT3 G < xB G) (hsl : sl ≤ 2560) (hQ : ∀ h', Q (some (.int 1)) h') : xW P G l (mL9 nm) 11 600000 7302250 0 0 0 [.ref b, xU, xU, xU] [] (fun _ => none) Q := by
  refine w_newA (ci := 6) (fs := [.null, .null, .null]) dL_law_0 rfl wl1 wl2 wl3 tyX5_ok (fun j hj => by rcases (show j = 0 ∨ j = 1 ∨ j = 2 by omega) with rfl | rfl | rfl <;> rfl) (Nat.le_of_ble_eq_true rfl) (Nat.le_of_ble_eq_true rfl) (fun sc t_sc u_sc => ?_)
  refine w_dup dL_law_3 rfl ?_
  refine w_callI (M' := mX5_init) (mc' := 10) (ms' := 125) (As := []) dL_law_4 gL_law_X5_init wl3 wl4 wl5 rfl rfl okX5_init rfl rfl (Nat.le_of_ble_eq_true rfl) (Nat.le_of_ble_eq_true rfl) (Nat.le_refl _) (Nat.le_of_ble_eq_true rfl) (Nat.le_of_ble_eq_true rfl) ?_
  refine kX5_init (d := 6) xup_s (fun h1 pg sx sy al c0 c1 c2 c3 c4 c5 t_pg u_pg o1 hk1 hF1 => ?_)
  show xW _ _ _ _ _ _ _ _ _ _ _ _ _ _
  refine w_astore_n dL_law_7 (Nat.le_of_ble_eq_true rfl) rfl ?_
  refine w_newA (ci := 7) (fs := [.int 0, .int 0, .null, .null, .null, .null, .null, .int 0, .null, .null, .null, .null, .null, .null, .null, .null, .int 0, .null, .null, .null, .null, .null, .int 0, .null, .null, .null]) dL_law_8 rfl wl6 wl7 wl8 tyX6_ok (fun j hj => by rcases (show j = 0 ∨ j = 1 ∨ j = 2 ∨ j = 3 ∨ j = 4 ∨ j = 5 ∨ j = 6 ∨ j = 7 ∨ j = 8 ∨ j = 9 ∨ j = 10 ∨ j = 11 ∨ j = 12 ∨ j = 13 ∨ j = 14 ∨ j = 15 ∨ j = 16 ∨ j = 17 ∨ j = 18 ∨ j = 19 ∨ j = 20 ∨ j = 21 ∨ j = 22 ∨ j = 23 ∨ j = 24 ∨ j = 25 by omega) with rfl | rfl | rfl | rfl | rfl | rfl | rfl | rfl | rfl | rfl | rfl | rfl | rfl | rfl | rfl | rfl | rfl | rfl | rfl | rfl | rfl | rfl | rfl | rfl | rfl | rfl <;> rfl) (Nat.le_of_ble_eq_true rfl) (Nat.le_of_ble_eq_true rfl) (fun a0 t_a0 u_a0 => ?_)
  refine w_dup dL_law_11 rfl ?_
  refine w_callI (M' := mX6_init) (mc' := 21) (ms' := 8414) (As := []) dL_law_12 gL_law_X6_init wl8 wl9 wl10 rfl rfl okX6_init rfl rfl (Nat.le_of_ble_eq_true rfl) (Nat.le_of_ble_eq_true rfl) (Nat.le_refl _) (Nat.le_of_ble_eq_true rfl) (Nat.le_of_ble_eq_true rfl) ?_
  refine kX6_init (d := 9) xup_s (fun h2 a2 a3 a4 a5 a6 a8 a9 a10 a11 a12 a13 a14 a15 a17 a18 a19 a20 a21 a23 a24 a25 t_a2 u_a2 o2 hm2 hF2 => ?_)
  show xW _ _ _ _ _ _ _ _ _ _ _ _ _ _
  refine w_astore_n dL_law_15 (Nat.le_of_ble_eq_true rfl) rfl ?_
  refine w_iconst (v := 0) dL_law_16 (by decide) ?_
  refine w_istore_n dL_law_17 (Nat.le_of_ble_eq_true rfl) rfl ?_
  have hc5 : c5 < a0 := t_a0 c5 _ hk1.2.2.2.2.2.2.2.2.2.2
  have hi : zInv G sc a0 h2 := z_start (h1 := h1) ⟨Nat.lt_of_lt_of_le hT3 u_sc, o1.1, o1.2.1, o1.2.2.1, o1.2.2.2.1, o1.2.2.2.2.1, o1.2.2.2.2.2.1, o1.2.2.2.2.2.2.1, o1.2.2.2.2.2.2.2.1, o1.2.2.2.2.2.2.2.2.1, o1.2.2.2.2.2.2.2.2.2, hc5, o2⟩ hk1 (fun b cc e ne => hF2 b cc (xup_k ne e) ne) hm2
  refine w_loc (L' := [.ref b, .ref sc, .ref a0, .int (nI (5 * 0))]) rfl ?_
  exact kL_loop hs hT3 hsl hQ 512 0 _ _ h2 (by omega) hi (Nat.le_of_ble_eq_true rfl) (Nat.le_of_ble_eq_true rfl) (by omega)
end ZL4
