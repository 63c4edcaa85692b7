/-- a is above all cells that are told -/
abbrev xTop (h : xH) (a : Nat) : Prop := ∀ (b : Nat) (c : va_E), h b = some c → b < a
theorem xTop.of {h : xH} {a s : Nat} {c : va_E} (t : xTop (xup h a c) s) : xTop h s := by
  intro b c' hb
  by_cases e : b = a
  · subst e; exact t _ c xup_s
  · exact t b c' (xup_k e hb)
section XNA
variable {G : xG} {l : Launch} {M : xM} {d mc ms k n pc i : Nat} {L st : List Value} {h : xH} {Q : Option Value → xH → Prop}
theorem xWd.top {H : Heap} (hW : xWd G h H) : xTop h H.size := fun b c hb => ((hW.2.2 b c hb).1).lt
theorem x_newA {ci N : Nat} {C : String} {T : u_T} {fs : List Value} {ty : Nat → FieldType} (hd : decode M.2.1 pc = .ok (.new i, 3)) (hc : vwCl[ci]? = some (C, T, N)) (hw1 : Cond.classLink M.1.cls i C ∈ M.2.2.2.2) (hw2 : Cond.instantiable C N ∈ M.2.2.2.2) (hw3 : Cond.initialized C ∈ M.2.2.2.2) (hty : ∀ k, k < N → parseFieldDescriptor (T k).2.2.1 = some (ty k)) (hfs : ∀ j, j < N → defaultValue (ty j) = vp_V fs j) (hr1 : k + 1 ≤ mc) (hr2 : n + N ≤ ms)
    (kk : ∀ a : Nat, xTop h a → xB G ≤ a → xV G l M d mc ms (k + 1) (n + N) (pc + 3) L (.ref a :: st) (xup h a (.inr (ci, fs))) Q) : xV G l M d mc ms k n pc L st h Q := by
  intro p e s m args below meth c C9 H locs ls hW hlo hL
  have hK := C9.2.2.2.2.2.2.2.1.1
  have hts := C9.2.2.2.2.2.1
  have hKn := hK.1 ci _ hc
  refine W.newcK C9.1 C9.2.1 C9.2.2.2.2.1 (hts _ hw1) (hts _ hw2) (hts _ hw3) rfl hd hr1 hr2 hKn.2.1 rfl fun H1 kC hkC e1 z1 o1 => ?_
  exact kk H.size hW.top hW.1 p e s m args below meth c C9 H1 locs ls (hW.add z1 o1 ⟨_, hc, (u_born ty (xts C9 hc) (fun _ z => z) hKn hkC e1 hty).to hfs⟩) hlo hL
theorem x_newIA {z : Int32} {N : Nat} (hd : decode M.2.1 pc = .ok (.newarray .int, 2)) (hw : Cond.arrayClass .int ∈ M.2.2.2.2) (hz : ¬ z < 0) (hN : z.toNatClampNeg = N) (hNb : N ≤ 100000) (hr1 : k + 1 ≤ mc) (hr2 : n + N ≤ ms)
    (kk : ∀ a : Nat, xTop h a → xB G ≤ a → xV G l M d mc ms (k + 1) (n + N) (pc + 2) L (.ref a :: st) (xup h a (xRi G N (fun _ => 0))) Q) : xV G l M d mc ms k n pc L (.int z :: st) h Q := by
  intro p e s m args below meth c C9 H locs ls hW hlo hL
  have hts := C9.2.2.2.2.2.1
  refine va_newaK (atype := .int) C9.1 C9.2.1 (hts _ hw) rfl hd rfl hz hN (by show N * 4 ≤ 536870912; omega) hr1 hr2 rfl fun H1 cA e1 z1 o1 hAr hNm => ?_
  have hcA : cA = xI G := Option.some.inj (hNm.symm.trans C9.2.2.2.2.2.2.2.1.2.2.2.2.1)
  subst hcA
  exact kk H.size hW.top hW.1 p e s m args below meth c C9 H1 locs ls (hW.add z1 o1 e1) hlo hL
theorem x_newZA {z : Int32} {N : Nat} (hd : decode M.2.1 pc = .ok (.newarray .boolean, 2)) (hw : Cond.arrayClass .boolean ∈ M.2.2.2.2) (hz : ¬ z < 0) (hN : z.toNatClampNeg = N) (hNb : N ≤ 100000) (hr1 : k + 1 ≤ mc) (hr2 : n + N ≤ ms)
    (kk : ∀ a : Nat, xTop h a → xB G ≤ a → xV G l M d mc ms (k + 1) (n + N) (pc + 2) L (.ref a :: st) (xup h a (xRz G N (fun _ => 0))) Q) : xV G l M d mc ms k n pc L (.int z :: st) h Q := by
  intro p e s m args below meth c C9 H locs ls hW hlo hL
  have hts := C9.2.2.2.2.2.1
  refine va_newaK (atype := .boolean) C9.1 C9.2.1 (hts _ hw) rfl hd rfl hz hN (by show N * 1 ≤ 536870912; omega) hr1 hr2 rfl fun H1 cA e1 z1 o1 hAr hNm => ?_
  have hcA : cA = xZ G := Option.some.inj (hNm.symm.trans C9.2.2.2.2.2.2.2.1.2.2.2.2.2.1)
  subst hcA
  exact kk H.size hW.top hW.1 p e s m args below meth c C9 H1 locs ls (hW.add z1 o1 e1) hlo hL
theorem x_anewA {z : Int32} {N : Nat} (hd : decode M.2.1 pc = .ok (.anewarray i, 3)) (hw : Cond.classLink M.1.cls i "java/lang/Object" ∈ M.2.2.2.2) (hz : ¬ z < 0) (hN : z.toNatClampNeg = N) (hNb : N ≤ 100000) (hr1 : k + 1 ≤ mc) (hr2 : n + N ≤ ms)
    (kk : ∀ a : Nat, xTop h a → xB G ≤ a → xV G l M d mc ms (k + 1) (n + N) (pc + 3) L (.ref a :: st) (xup h a (xRo G N (fun _ => none))) Q) : xV G l M d mc ms k n pc L (.int z :: st) h Q := by
  intro p e s m args below meth c C9 H locs ls hW hlo hL
  have hts := C9.2.2.2.2.2.1
  subst hN
  refine W.anew C9.1 C9.2.1 C9.2.2.2.2.1 (hts _ hw) (va_AO.use C9.2.2.2.2.2.2.2.1.2.2.2.2.2.2.2.2.2.2.2.2) rfl hd rfl hz (by omega) hr1 hr2 fun cA kA comp h1 h2 h3 h4 => ?_
  have hcA : cA = xO G := Option.some.inj (h1.symm.trans C9.2.2.2.2.2.2.2.1.2.2.2.2.2.2.1)
  subst hcA
  refine kk H.size hW.top hW.1 p e s m args below meth c C9 _ locs ls (hW.add (by simp) (fun q hq => by rw [Array.getElem?_push, if_neg (Nat.ne_of_lt hq)]) ?_) hlo hL
  show (H.push _)[H.size]? = some (vp_cell _ _)
  rw [vp_cell_q, Array.getElem?_push, if_pos rfl]
  exact congrArg some (arrV_new (xO G) z.toNatClampNeg .null)
theorem x_aast {a v m9 ci N : Nat} {f : Nat → Option Nat} {x : Int32} {C : String} {T : u_T} {vs : List Value} (hd : decode M.2.1 pc = .ok (.aastore, 1)) (hh : h a = some (xRo G m9 f)) (hv : h v = some (.inr (ci, vs))) (hc : vwCl[ci]? = some (C, T, N)) (hca : ∀ s : State, xK G s → va_Nw (.castable C "java/lang/Object") s) (hin : vp_in x m9)
    (kk : xV G l M d mc ms k n (pc + 1) L st (xup h a (xRo G m9 (va_up f x.toNatClampNeg (some v)))) Q) : xV G l M d mc ms k n pc L (.ref v :: .int x :: .ref a :: st) h Q := by
  intro p e s m args below meth c C9 H locs ls hW hlo hL
  have hK := C9.2.2.2.2.2.2.2.1
  have hB := (hW.2.2 a _ hh).2
  have hlt : x.toNatClampNeg < m9 := Nat.not_le.mp fun q => hin (Or.inr q)
  have h0 : ¬ x < 0 := fun q => hin (Or.inl q)
  obtain ⟨r', hr', cellV, g1, g2, g3, -⟩ := (hW.2.2 v _ hv).1
  have hcls := (hK.1.1 ci _ hc).2
  obtain ⟨kA, comp, k1, k2, k3, -⟩ := (hK.1.2 2 _ rfl).2
  obtain ⟨kE, hkE, -⟩ := Vm.findClass_spec k3
  obtain ⟨c0, t1, f1, f2, f3⟩ := Cond.castable_spec (va_Nw.use (A := args) rfl (hca s hK))
  cases hcls.1.symm.trans f1
  cases k3.symm.trans f2
  obtain ⟨kC, hkC, -⟩ := hcls.2
  refine W.aast C9.1 C9.2.1 (hW.2.2 a _ hh).1 (fun q h => by cases h) (fun h => by cases h) k1 k2 rfl hkE ⟨h0, by show _ < (arrV _ _ _).slots.size; rw [arrV_size]; exact hlt⟩ g1 (fun q h => by rw [g3] at h; cases h) (by rw [g2]; exact hkC) (by rw [g2]; exact f3) rfl rfl hd fun H1 e1 z oq => ?_
  refine kk p e s m args below meth c C9 H1 _ ls (hW.put hB z oq ?_) (xlo hlo hB) hL
  show H1[a]? = some (vp_cell _ _)
  rw [e1]
  rw [vp_cell_q, vp_cell_q, arrV_store]
  congr 2
  funext q
  by_cases hq : q = x.toNatClampNeg
  · subst hq
    simp [updV, va_up, va_rf]
  · simp [updV, va_up, hq]
theorem xV.wd {k' n' : Nat} (hk : k ≤ k') (hn : n ≤ n') (hv : xV G l M d mc ms k' n' pc L st h Q) : xV G l M d mc ms k n pc L st h Q :=
  fun p e s m args below meth c C H locs ls hW hlo hL => W.widen hk hn (hv p e s m args below meth c C H locs ls hW hlo hL)
theorem xsame_mod (args : Array Value) (s : State) (hts : ∀ w ∈ mJx4a65c_add_9ea2d.2.2.2.2, w.before args s = true) (x : ClassId × Class × Nat × Field) (ho : s.fieldFound? "java/util/AbstractList" "modCount" "I" = some x) : s.fieldFound? "java/util/ArrayList" "modCount" "I" = some x := u_same (hts (Cond.sameField "java/util/ArrayList" "java/util/AbstractList" "modCount" "I") (by decide +kernel)) x ho
end XNA
set_option maxHeartbeats 4000000 in
set_option maxRecDepth 100000 in
theorem kX2_init {G : xG} {l : Launch} {d : Nat} {h : xH} {Q : Option Value → xH → Prop} {a : Nat} {dn : Int32} (ha : h a = some (xOb 3 [.int 0, .int 0, .int 0, .int 0, .int 0, .int 0]))  (hQ : Q none (xup h a (xOb 3 [.int (0 : Int32), .int (0 : Int32), .int (10 : Int32), .int (0 : Int32), .int (0 : Int32), .int dn]))) : xV G l mX2_init (d + 1) 0 0 0 0 0 [.ref a, .int dn] [] h Q := by
  refine x_aload_n dX2_init_0 rfl ?_
  refine x_objInit dX2_init_1 (by decide +kernel) (by decide +kernel) (by decide +kernel) (Nat.le_of_ble_eq_true rfl) (by omega) ?_
  refine x_aload_n dX2_init_4 rfl ?_
  refine x_iconst (v := 0) dX2_init_5 (by decide) ?_
  refine x_put 0 dX2_init_6 ha rfl (by decide) (by decide +kernel) rfl rfl rfl rfl (Nat.le_of_ble_eq_true rfl) ?_
  refine x_aload_n dX2_init_9 rfl ?_
  refine x_iconst (v := 0) dX2_init_10 (by decide) ?_
  refine x_put 1 dX2_init_11 xup_s rfl (by decide) (by decide +kernel) rfl rfl rfl rfl (Nat.le_of_ble_eq_true rfl) ?_
  refine x_heap xup_u ?_
  refine x_aload_n dX2_init_14 rfl ?_
  refine x_bipush (v := 10) dX2_init_15 (by decide) ?_
  refine x_put 2 dX2_init_17 xup_s rfl (by decide) (by decide +kernel) rfl rfl rfl rfl (Nat.le_of_ble_eq_true rfl) ?_
  refine x_heap xup_u ?_
  refine x_aload_n dX2_init_20 rfl ?_
  refine x_iload_n dX2_init_21 rfl ?_
  refine x_put 5 dX2_init_22 xup_s rfl (by decide) (by decide +kernel) rfl rfl rfl rfl (Nat.le_of_ble_eq_true rfl) ?_
  refine x_heap xup_u ?_
  exact x_vret dX2_init_25 rfl hQ
def xP0 : xPv := (20, 8, (0, 0, 10, 0, 0, 40), (0, 0, 10, 0, 0, 32))
set_option maxHeartbeats 4000000 in
set_option maxRecDepth 100000 in
theorem kX1_init {G : xG} {l : Launch} {d : Nat} {h : xH} {Q : Option Value → xH → Prop} {a : Nat} (ha : h a = some (xOb 2 [.int 0, .int 0, .null, .null])) (hQ : ∀ (h' : xH) (sx sy : Nat), xTop h sx → xB G ≤ sx → a < sx → sx < sy → xPg a sx sy xP0 h' → (∀ b, b ≠ a → b ≠ sx → b ≠ sy → h' b = h b) → Q none h') : xV G l mX1_init (d + 2) 2 12 0 0 0 [.ref a] [] h Q := by
  refine x_aload_n dX1_init_0 rfl ?_
  refine x_objInit dX1_init_1 (by decide +kernel) (by decide +kernel) (by decide +kernel) (Nat.le_of_ble_eq_true rfl) (by omega) ?_
  refine x_aload_n dX1_init_4 rfl ?_
  refine x_bipush (v := 20) dX1_init_5 (by decide) ?_
  refine x_put 0 dX1_init_7 ha rfl (by decide) (by decide +kernel) rfl rfl rfl rfl (Nat.le_of_ble_eq_true rfl) ?_
  refine x_aload_n dX1_init_10 rfl ?_
  refine x_bipush (v := 8) dX1_init_11 (by decide) ?_
  refine x_put 1 dX1_init_13 xup_s rfl (by decide) (by decide +kernel) rfl rfl rfl rfl (Nat.le_of_ble_eq_true rfl) ?_
  refine x_heap xup_u ?_
  refine x_aload_n dX1_init_16 rfl ?_
  refine x_newA (ci := 3) (fs := [.int (0 : Int32), .int (0 : Int32), .int (0 : Int32), .int (0 : Int32), .int (0 : Int32), .int (0 : Int32)]) dX1_init_17 rfl (by decide +kernel) (by decide +kernel) (by decide +kernel) tyX2_ok (fun j hj => by rcases (show j = 0 ∨ j = 1 ∨ j = 2 ∨ j = 3 ∨ j = 4 ∨ j = 5 by omega) with rfl | rfl | rfl | rfl | rfl | rfl <;> rfl) (Nat.le_of_ble_eq_true rfl) (Nat.le_of_ble_eq_true rfl) (fun sx t_sx u_sx => ?_)
  have l_sx : a < sx := t_sx _ _ xup_s
  refine x_dup dX1_init_20 rfl ?_
  refine x_bipush (v := 40) dX1_init_21 (by decide) ?_
  refine x_callI (M' := mX2_init) (mc' := 0) (ms' := 0) (As := [.int (40 : Int32)]) dX1_init_23 gX1_init_X2_init (by decide +kernel) (by decide +kernel) (by decide +kernel) rfl rfl okX2_init rfl rfl (Nat.le_of_ble_eq_true rfl) (Nat.le_of_ble_eq_true rfl) (Nat.le_refl _) (Nat.le_of_ble_eq_true rfl) (Nat.le_of_ble_eq_true rfl) ?_
  refine kX2_init xup_s ?_
  show xV _ _ _ _ _ _ _ _ _ _ _ _ _
  refine x_heap xup_u ?_
  show xV _ _ _ _ _ _ _ _ _ _ _ _ _
  refine x_putF 2 dX1_init_26 (xup_k (by omega) xup_s) rfl (by decide) (by decide +kernel) rfl rfl rfl rfl rfl rfl (Nat.le_of_ble_eq_true rfl) ?_
  refine x_aload_n dX1_init_29 rfl ?_
  refine x_newA (ci := 3) (fs := [.int (0 : Int32), .int (0 : Int32), .int (0 : Int32), .int (0 : Int32), .int (0 : Int32), .int (0 : Int32)]) dX1_init_30 rfl (by decide +kernel) (by decide +kernel) (by decide +kernel) tyX2_ok (fun j hj => by rcases (show j = 0 ∨ j = 1 ∨ j = 2 ∨ j = 3 ∨ j = 4 ∨ j = 5 by omega) with rfl | rfl | rfl | rfl | rfl | rfl <;> rfl) (Nat.le_of_ble_eq_true rfl) (Nat.le_of_ble_eq_true rfl) (fun sy t_sy u_sy => ?_)
  have l_sy : sx < sy := t_sy _ _ (xup_k (by omega) xup_s)
  refine x_dup dX1_init_33 rfl ?_
  refine x_bipush (v := 32) dX1_init_34 (by decide) ?_
  refine x_callI (M' := mX2_init) (mc' := 0) (ms' := 0) (As := [.int (32 : Int32)]) dX1_init_36 gX1_init_X2_init (by decide +kernel) (by decide +kernel) (by decide +kernel) rfl rfl okX2_init rfl rfl (Nat.le_of_ble_eq_true rfl) (Nat.le_of_ble_eq_true rfl) (Nat.le_refl _) (Nat.le_of_ble_eq_true rfl) (Nat.le_of_ble_eq_true rfl) ?_
  refine kX2_init xup_s ?_
  show xV _ _ _ _ _ _ _ _ _ _ _ _ _
  refine x_heap xup_u ?_
  show xV _ _ _ _ _ _ _ _ _ _ _ _ _
  refine x_putF 3 dX1_init_39 (xup_k (by omega) xup_s) rfl (by decide) (by decide +kernel) rfl rfl rfl rfl rfl rfl (Nat.le_of_ble_eq_true rfl) ?_
  exact x_vret dX1_init_42 rfl (hQ _ sx sy t_sx.of u_sx l_sx l_sy ⟨xup_s, (xup_k (by omega) (xup_k (by omega) (xup_k (by omega) xup_s))), (xup_k (by omega) xup_s)⟩ (fun b e0 e1 e2 => by rw [xup_n e0, xup_n e2, xup_n e0, xup_n e1, xup_n e0])) (Nat.le_of_ble_eq_true rfl) (Nat.le_of_ble_eq_true rfl)
set_option maxHeartbeats 4000000 in
set_option maxRecDepth 100000 in
theorem kX0_init {G : xG} {l : Launch} {d : Nat} {h : xH} {Q : Option Value → xH → Prop} {a : Nat} (ha : h a = some (xOb 1 [.int 0, .null, .null, .null, .null, .null])) (hQ : ∀ (h' : xH) (c1 c2 c3 c4 c5 : Nat), xTop h c1 → xB G ≤ c1 → (a < c1 ∧ c1 < c2 ∧ c2 < c3 ∧ c3 < c4 ∧ c4 < c5) → (h' a = some (xOb 1 [.int 0, .ref c1, .ref c2, .ref c3, .ref c4, .ref c5]) ∧ h' c1 = some (xRi G 20 (fun _ => 0)) ∧ h' c2 = some (xRi G 20 (fun _ => 0)) ∧ h' c3 = some (xRi G 20 (fun _ => 0)) ∧ h' c4 = some (xRi G 20 (fun _ => 0)) ∧ h' c5 = some (xRi G 20 (fun _ => 0))) → (∀ b, b ≠ a → b ≠ c1 → b ≠ c2 → b ≠ c3 → b ≠ c4 → b ≠ c5 → h' b = h b) → Q none h') : xV G l mX0_init (d + 1) 5 100 0 0 0 [.ref a] [] h Q := by
  refine x_aload_n dX0_init_0 rfl ?_
  refine x_objInit dX0_init_1 (by decide +kernel) (by decide +kernel) (by decide +kernel) (Nat.le_of_ble_eq_true rfl) (by omega) ?_
  refine x_aload_n dX0_init_4 rfl ?_
  refine x_bipush (v := 20) dX0_init_5 (by decide) ?_
  refine x_newIA (N := 20) dX0_init_7 (by decide +kernel) (by decide) (by decide) (by decide) (Nat.le_of_ble_eq_true rfl) (Nat.le_of_ble_eq_true rfl) (fun c1 t_c1 u_c1 => ?_)
  have l_c1 : a < c1 := t_c1 _ _ ha
  refine x_putF 1 dX0_init_9 (xup_k (by omega) ha) rfl (by decide) (by decide +kernel) rfl rfl rfl rfl rfl rfl (Nat.le_of_ble_eq_true rfl) ?_
  refine x_aload_n dX0_init_12 rfl ?_
  refine x_bipush (v := 20) dX0_init_13 (by decide) ?_
  refine x_newIA (N := 20) dX0_init_15 (by decide +kernel) (by decide) (by decide) (by decide) (Nat.le_of_ble_eq_true rfl) (Nat.le_of_ble_eq_true rfl) (fun c2 t_c2 u_c2 => ?_)
  have l_c2 : c1 < c2 := t_c2 _ _ (xup_k (by omega) xup_s)
  refine x_putF 2 dX0_init_17 (xup_k (by omega) xup_s) rfl (by decide) (by decide +kernel) rfl rfl rfl rfl rfl rfl (Nat.le_of_ble_eq_true rfl) ?_
  refine x_aload_n dX0_init_20 rfl ?_
  refine x_bipush (v := 20) dX0_init_21 (by decide) ?_
  refine x_newIA (N := 20) dX0_init_23 (by decide +kernel) (by decide) (by decide) (by decide) (Nat.le_of_ble_eq_true rfl) (Nat.le_of_ble_eq_true rfl) (fun c3 t_c3 u_c3 => ?_)
  have l_c3 : c2 < c3 := t_c3 _ _ (xup_k (by omega) xup_s)
  refine x_putF 3 dX0_init_25 (xup_k (by omega) xup_s) rfl (by decide) (by decide +kernel) rfl rfl rfl rfl rfl rfl (Nat.le_of_ble_eq_true rfl) ?_
  refine x_aload_n dX0_init_28 rfl ?_
  refine x_bipush (v := 20) dX0_init_29 (by decide) ?_
  refine x_newIA (N := 20) dX0_init_31 (by decide +kernel) (by decide) (by decide) (by decide) (Nat.le_of_ble_eq_true rfl) (Nat.le_of_ble_eq_true rfl) (fun c4 t_c4 u_c4 => ?_)
  have l_c4 : c3 < c4 := t_c4 _ _ (xup_k (by omega) xup_s)
  refine x_putF 4 dX0_init_33 (xup_k (by omega) xup_s) rfl (by decide) (by decide +kernel) rfl rfl rfl rfl rfl rfl (Nat.le_of_ble_eq_true rfl) ?_
  refine x_aload_n dX0_init_36 rfl ?_
  refine x_bipush (v := 20) dX0_init_37 (by decide) ?_
  refine x_newIA (N := 20) dX0_init_39 (by decide +kernel) (by decide) (by decide) (by decide) (Nat.le_of_ble_eq_true rfl) (Nat.le_of_ble_eq_true rfl) (fun c5 t_c5 u_c5 => ?_)
  have l_c5 : c4 < c5 := t_c5 _ _ (xup_k (by omega) xup_s)
  refine x_putF 5 dX0_init_41 (xup_k (by omega) xup_s) rfl (by decide) (by decide +kernel) rfl rfl rfl rfl rfl rfl (Nat.le_of_ble_eq_true rfl) ?_
  exact x_vret dX0_init_44 rfl (hQ _ c1 c2 c3 c4 c5 t_c1 u_c1 ⟨l_c1, l_c2, l_c3, l_c4, l_c5⟩ ⟨xup_s, (xup_k (by omega) (xup_k (by omega) (xup_k (by omega) (xup_k (by omega) (xup_k (by omega) (xup_k (by omega) (xup_k (by omega) (xup_k (by omega) (xup_k (by omega) xup_s))))))))), (xup_k (by omega) (xup_k (by omega) (xup_k (by omega) (xup_k (by omega) (xup_k (by omega) (xup_k (by omega) (xup_k (by omega) xup_s))))))), (xup_k (by omega) (xup_k (by omega) (xup_k (by omega) (xup_k (by omega) (xup_k (by omega) xup_s))))), (xup_k (by omega) (xup_k (by omega) (xup_k (by omega) xup_s))), (xup_k (by omega) xup_s)⟩ (fun b e0 e1 e2 e3 e4 e5 => by rw [xup_n e0, xup_n e5, xup_n e0, xup_n e4, xup_n e0, xup_n e3, xup_n e0, xup_n e2, xup_n e0, xup_n e1])) (Nat.le_of_ble_eq_true rfl) (Nat.le_of_ble_eq_true rfl)
set_option maxHeartbeats 4000000 in
set_option maxRecDepth 100000 in
theorem kJxa1e45_init_da8c8 {G : xG} {l : Launch} {d : Nat} {h : xH} {Q : Option Value → xH → Prop} {a : Nat}   (hQ : Q none h) : xV G l mJxa1e45_init_da8c8 (d + 1) 0 0 0 0 0 [.ref a] [] h Q := by
  refine x_aload_n dJxa1e45_init_da8c8_0 rfl ?_
  refine x_objInit dJxa1e45_init_da8c8_1 (by decide +kernel) (by decide +kernel) (by decide +kernel) (Nat.le_of_ble_eq_true rfl) (by omega) ?_
  exact x_vret dJxa1e45_init_da8c8_4 rfl hQ
set_option maxHeartbeats 4000000 in
set_option maxRecDepth 100000 in
theorem kJxc12de_init_da8c8 {G : xG} {l : Launch} {d : Nat} {h : xH} {Q : Option Value → xH → Prop} {a : Nat} (ha : h a = some (xOb 0 [.int 0, .null, .int 0]))  (hQ : Q none (xup h a (xOb 0 [.int (0 : Int32), .null, .int (0 : Int32)]))) : xV G l mJxc12de_init_da8c8 (d + 2) 0 0 0 0 0 [.ref a] [] h Q := by
  refine x_aload_n dJxc12de_init_da8c8_0 rfl ?_
  refine x_callI (M' := mJxa1e45_init_da8c8) (mc' := 0) (ms' := 0) (As := []) dJxc12de_init_da8c8_1 gJxc12de_init_da8c8_Jxa1e45_init_da8c8 (by decide +kernel) (by decide +kernel) (by decide +kernel) rfl rfl okJxa1e45_init_da8c8 rfl rfl (Nat.le_of_ble_eq_true rfl) (Nat.le_of_ble_eq_true rfl) (Nat.le_refl _) (Nat.le_refl _) (Nat.le_refl _) ?_
  refine kJxa1e45_init_da8c8 ?_
  show xV _ _ _ _ _ _ _ _ _ _ _ _ _
  refine x_aload_n dJxc12de_init_da8c8_4 rfl ?_
  refine x_iconst (v := 0) dJxc12de_init_da8c8_5 (by decide) ?_
  refine x_put 0 dJxc12de_init_da8c8_6 ha rfl (by decide) (by decide +kernel) rfl rfl rfl rfl (Nat.le_of_ble_eq_true rfl) ?_
  exact x_vret dJxc12de_init_da8c8_9 rfl hQ
set_option maxHeartbeats 4000000 in
set_option maxRecDepth 100000 in
theorem kJx4a65c_init_da8c8 {G : xG} {l : Launch} {d : Nat} {h : xH} {Q : Option Value → xH → Prop} {a : Nat} (ha : h a = some (xOb 0 [.int 0, .null, .int 0]))  (hQ : Q none (xup h a (xOb 0 [.int (0 : Int32), .ref (xT3 G), .int (0 : Int32)]))) : xV G l mJx4a65c_init_da8c8 (d + 3) 0 0 0 0 0 [.ref a] [] h Q := by
  refine x_aload_n dJx4a65c_init_da8c8_0 rfl ?_
  refine x_callI (M' := mJxc12de_init_da8c8) (mc' := 0) (ms' := 0) (As := []) dJx4a65c_init_da8c8_1 gJx4a65c_init_da8c8_Jxc12de_init_da8c8 (by decide +kernel) (by decide +kernel) (by decide +kernel) rfl rfl okJxc12de_init_da8c8 rfl rfl (Nat.le_of_ble_eq_true rfl) (Nat.le_of_ble_eq_true rfl) (Nat.le_refl _) (Nat.le_refl _) (Nat.le_refl _) ?_
  refine kJxc12de_init_da8c8 ha ?_
  show xV _ _ _ _ _ _ _ _ _ _ _ _ _
  refine x_aload_n dJx4a65c_init_da8c8_4 rfl ?_
  refine x_gets dJx4a65c_init_da8c8_5 (fun s hK => hK.2.2.1.2.2) (by decide +kernel) ?_
  refine x_put 1 dJx4a65c_init_da8c8_8 xup_s rfl (by decide) (by decide +kernel) rfl rfl rfl rfl (Nat.le_of_ble_eq_true rfl) ?_
  refine x_heap xup_u ?_
  exact x_vret dJx4a65c_init_da8c8_11 rfl hQ
set_option maxHeartbeats 4000000 in
set_option maxRecDepth 100000 in
theorem kX5_init {G : xG} {l : Launch} {d : Nat} {h : xH} {Q : Option Value → xH → Prop} {sc : Nat} (ha : h sc = some (xOb 6 [.null, .null, .null])) (hQ : ∀ (h' : xH) (pg sx sy al c0 c1 c2 c3 c4 c5 : Nat), xTop h pg → xB G ≤ pg → (sc < pg ∧ pg < sx ∧ sx < sy ∧ sy < al ∧ al < c0 ∧ c0 < c1 ∧ c1 < c2 ∧ c2 < c3 ∧ c3 < c4 ∧ c4 < c5) → (h' sc = some (xOb 6 [.ref pg, .ref al, .ref c0]) ∧ h' pg = some (xPo sx sy xP0) ∧ h' sx = some (xSc xP0.2.2.1) ∧ h' sy = some (xSc xP0.2.2.2) ∧ h' al = some (xAo (xT3 G) 0 0) ∧ h' c0 = some (xOb 1 [.int 0, .ref c1, .ref c2, .ref c3, .ref c4, .ref c5]) ∧ h' c1 = some (xRi G 20 (fun _ => 0)) ∧ h' c2 = some (xRi G 20 (fun _ => 0)) ∧ h' c3 = some (xRi G 20 (fun _ => 0)) ∧ h' c4 = some (xRi G 20 (fun _ => 0)) ∧ h' c5 = some (xRi G 20 (fun _ => 0))) → (∀ b cc, h b = some cc → b ≠ sc → h' b = some cc) → Q none h') : xV G l mX5_init (d + 4) 10 125 0 0 0 [.ref sc] [] h Q := by
  refine x_aload_n dX5_init_0 rfl ?_
  refine x_objInit dX5_init_1 (by decide +kernel) (by decide +kernel) (by decide +kernel) (Nat.le_of_ble_eq_true rfl) (by omega) ?_
  refine x_aload_n dX5_init_4 rfl ?_
  refine x_newA (ci := 2) (fs := [.int (0 : Int32), .int (0 : Int32), .null, .null]) dX5_init_5 rfl (by decide +kernel) (by decide +kernel) (by decide +kernel) tyX1_ok (fun j hj => by rcases (show j = 0 ∨ j = 1 ∨ j = 2 ∨ j = 3 by omega) with rfl | rfl | rfl | rfl <;> rfl) (Nat.le_of_ble_eq_true rfl) (Nat.le_of_ble_eq_true rfl) (fun pg t_pg u_pg => ?_)
  have l_pg : sc < pg := t_pg _ _ ha
  refine x_dup dX5_init_8 rfl ?_
  refine x_callIN (M' := mX1_init) (mc' := 2) (ms' := 12) (As := []) dX5_init_9 gX5_init_X1_init_n11 (by decide +kernel) (fun s hK => hK.2.2.2.2.2.2.2.2.2.1) (by decide +kernel) rfl rfl okX1_init rfl rfl (Nat.le_of_ble_eq_true rfl) (Nat.le_of_ble_eq_true rfl) (Nat.le_refl _) (Nat.le_of_ble_eq_true rfl) (Nat.le_of_ble_eq_true rfl) ?_
  refine kX1_init (d := d + 1) xup_s (fun h1 sx sy t_sx u_sx l_sx l_sy hP1 hF1 => ?_)
  have hs1 := (hF1 sc (by omega) (by omega) (by omega)).trans (xup_k (by omega) ha)
  show xV _ _ _ _ _ _ _ _ _ _ _ _ _
  refine x_putF 0 dX5_init_12 hs1 rfl (by decide) (by decide +kernel) rfl rfl rfl rfl rfl rfl (Nat.le_of_ble_eq_true rfl) ?_
  refine x_aload_n dX5_init_15 rfl ?_
  refine x_newA (ci := 0) (fs := [.int (0 : Int32), .null, .int (0 : Int32)]) dX5_init_16 rfl (by decide +kernel) (by decide +kernel) (by decide +kernel) tyJx4a65c_ok (fun j hj => by rcases (show j = 0 ∨ j = 1 ∨ j = 2 by omega) with rfl | rfl | rfl <;> rfl) (Nat.le_of_ble_eq_true rfl) (Nat.le_of_ble_eq_true rfl) (fun al t_al u_al => ?_)
  have l_al : sy < al := t_al _ _ (xup_k (by omega) hP1.2.2)
  refine x_dup dX5_init_19 rfl ?_
  refine x_callI (M' := mJx4a65c_init_da8c8) (mc' := 0) (ms' := 0) (As := []) dX5_init_20 gX5_init_Jx4a65c_init_da8c8 (by decide +kernel) (by decide +kernel) (by decide +kernel) rfl rfl okJx4a65c_init_da8c8 rfl rfl (Nat.le_of_ble_eq_true rfl) (Nat.le_of_ble_eq_true rfl) (Nat.le_refl _) (Nat.le_of_ble_eq_true rfl) (Nat.le_of_ble_eq_true rfl) ?_
  refine kJx4a65c_init_da8c8 xup_s ?_
  show xV _ _ _ _ _ _ _ _ _ _ _ _ _
  refine x_heap xup_u ?_
  show xV _ _ _ _ _ _ _ _ _ _ _ _ _
  refine x_putF 1 dX5_init_23 (xup_k (by omega) xup_s) rfl (by decide) (by decide +kernel) rfl rfl rfl rfl rfl rfl (Nat.le_of_ble_eq_true rfl) ?_
  refine x_aload_n dX5_init_26 rfl ?_
  refine x_newA (ci := 1) (fs := [.int (0 : Int32), .null, .null, .null, .null, .null]) dX5_init_27 rfl (by decide +kernel) (by decide +kernel) (by decide +kernel) tyX0_ok (fun j hj => by rcases (show j = 0 ∨ j = 1 ∨ j = 2 ∨ j = 3 ∨ j = 4 ∨ j = 5 by omega) with rfl | rfl | rfl | rfl | rfl | rfl <;> rfl) (Nat.le_of_ble_eq_true rfl) (Nat.le_of_ble_eq_true rfl) (fun c0 t_c0 u_c0 => ?_)
  have l_c0 : al < c0 := t_c0 _ _ (xup_k (by omega) xup_s)
  refine x_dup dX5_init_30 rfl ?_
  refine x_callIN (M' := mX0_init) (mc' := 5) (ms' := 100) (As := []) dX5_init_31 gX5_init_X0_init_n25 (by decide +kernel) (fun s hK => hK.2.2.2.2.2.2.2.2.2.2.1) (by decide +kernel) rfl rfl okX0_init rfl rfl (Nat.le_of_ble_eq_true rfl) (Nat.le_of_ble_eq_true rfl) (Nat.le_refl _) (Nat.le_of_ble_eq_true rfl) (Nat.le_of_ble_eq_true rfl) ?_
  refine kX0_init (d := d + 2) xup_s (fun h2 c1 c2 c3 c4 c5 t_c1 u_c1 lc hL2 hF2 => ?_)
  have hs2 := (hF2 sc (by omega) (by omega) (by omega) (by omega) (by omega) (by omega)).trans (xup_k (by omega) xup_s)
  have ha2 := (hF2 al (by omega) (by omega) (by omega) (by omega) (by omega) (by omega)).trans (xup_k (by omega) (xup_k (by omega) xup_s))
  have hp0 := (hF2 pg (by omega) (by omega) (by omega) (by omega) (by omega) (by omega)).trans (xup_k (by omega) (xup_k (by omega) (xup_k (by omega) (xup_k (by omega) hP1.1))))
  have hp1 := (hF2 sx (by omega) (by omega) (by omega) (by omega) (by omega) (by omega)).trans (xup_k (by omega) (xup_k (by omega) (xup_k (by omega) (xup_k (by omega) hP1.2.1))))
  have hp2 := (hF2 sy (by omega) (by omega) (by omega) (by omega) (by omega) (by omega)).trans (xup_k (by omega) (xup_k (by omega) (xup_k (by omega) (xup_k (by omega) hP1.2.2))))
  show xV _ _ _ _ _ _ _ _ _ _ _ _ _
  refine x_putF 2 dX5_init_34 hs2 rfl (by decide) (by decide +kernel) rfl rfl rfl rfl rfl rfl (Nat.le_of_ble_eq_true rfl) ?_
  exact x_vret dX5_init_37 rfl (hQ _ pg sx sy al c0 c1 c2 c3 c4 c5 t_pg u_pg ⟨l_pg, l_sx, l_sy, l_al, l_c0, lc.1, lc.2.1, lc.2.2.1, lc.2.2.2.1, lc.2.2.2.2⟩ ⟨xup_s, (xup_k (by omega) hp0), (xup_k (by omega) hp1), (xup_k (by omega) hp2), (xup_k (by omega) ha2), (xup_k (by omega) hL2.1), (xup_k (by omega) hL2.2.1), (xup_k (by omega) hL2.2.2.1), (xup_k (by omega) hL2.2.2.2.1), (xup_k (by omega) hL2.2.2.2.2.1), (xup_k (by omega) hL2.2.2.2.2.2)⟩ (fun b cc hb e0 => by
      have q1 := t_pg b _ hb
      rw [xup_n e0, hF2 b (by omega) (by omega) (by omega) (by omega) (by omega) (by omega), xup_n (show b ≠ c0 by omega), xup_n e0, xup_n (show b ≠ al by omega), xup_n e0, hF1 b (by omega) (by omega) (by omega), xup_n (show b ≠ pg by omega)]
      exact hb)) (Nat.le_of_ble_eq_true rfl) (Nat.le_of_ble_eq_true rfl)
