/-! THE LAW: what holds at its entry -/
theorem wt1 : Cond.laysStatic "SignCharts" "TICK_STEPS" "[I" ∈ lw_tbl := by decide +kernel
theorem wt2 : Cond.laysStatic "SignCharts" "DOT_BITS" "[I" ∈ lw_tbl := by decide +kernel
theorem wt3 : Cond.laysStatic "java/util/ArrayList" "DEFAULTCAPACITY_EMPTY_ELEMENTDATA" "[Ljava/lang/Object;" ∈ lw_tbl := by decide +kernel
theorem wt4 : Cond.initialized "SignCharts" ∈ lw_tbl := by decide +kernel
theorem wt5 : Cond.initialized "java/util/ArrayList" ∈ lw_tbl := by decide +kernel
theorem wt6 : Cond.arrayClass .int ∈ lw_tbl := by decide +kernel
theorem wt7 : Cond.arrayClass .boolean ∈ lw_tbl := by decide +kernel
theorem wt8 : Cond.arrayOver (.object "java/lang/Object") ∈ lw_tbl := by decide +kernel
theorem wt9 : Cond.fieldLinkNest "SignCharts$Scale" 52 "SignCharts" "TICK_STEPS" "[I" "SignCharts" ∈ lw_tbl := by decide +kernel
theorem wt10 : Cond.fieldLinkNest "SignCharts$Sheet" 67 "SignCharts" "DOT_BITS" "[I" "SignCharts" ∈ lw_tbl := by decide +kernel
theorem wt11 : Cond.methodLinkNest "SignCharts" 11 ⟨"SignCharts$Page", "<init>", "()V"⟩ "SignCharts" ∈ lw_tbl := by decide +kernel
theorem wt12 : Cond.methodLinkNest "SignCharts" 25 ⟨"SignCharts$Labels", "<init>", "()V"⟩ "SignCharts" ∈ lw_tbl := by decide +kernel
theorem wt13 : Cond.castable "SignCharts$Series" "java/lang/Object" ∈ lw_tbl := by decide +kernel
theorem wt_inst : ∀ q ∈ vwCl, Cond.instantiable q.1 q.2.2 ∈ lw_tbl := by decide +kernel
theorem wt_lay : ∀ q ∈ vwCl, ∀ w ∈ u_ws q.1 q.2.1 q.2.2, w ∈ lw_tbl := List.forall_mem_cons.mpr ⟨fun _ h => wsL_law_in _ (List.mem_append_left _ (List.mem_append_left _ (List.mem_append_left _ (List.mem_append_left _ (List.mem_append_left _ (List.mem_append_right _ h)))))), List.forall_mem_cons.mpr ⟨fun _ h => wsL_law_in _ (List.mem_append_left _ (List.mem_append_left _ (List.mem_append_left _ (List.mem_append_left _ (List.mem_append_right _ h))))), List.forall_mem_cons.mpr ⟨fun _ h => wsL_law_in _ (List.mem_append_left _ (List.mem_append_left _ (List.mem_append_left _ (List.mem_append_left _ (List.mem_append_left _ (List.mem_append_left _ (List.mem_append_right _ h))))))), List.forall_mem_cons.mpr ⟨fun _ h => wsL_law_in _ (List.mem_append_left _ (List.mem_append_left _ (List.mem_append_left _ (List.mem_append_right _ h)))), List.forall_mem_cons.mpr ⟨fun _ h => wsL_law_in _ (List.mem_append_left _ (List.mem_append_left _ (List.mem_append_right _ h))), List.forall_mem_cons.mpr ⟨fun _ h => wsL_law_in _ (List.mem_append_left _ (List.mem_append_right _ h)), List.forall_mem_cons.mpr ⟨fun _ h => wsL_law_in _ (List.mem_append_left _ (List.mem_append_left _ (List.mem_append_left _ (List.mem_append_left _ (List.mem_append_left _ (List.mem_append_left _ (List.mem_append_left _ (List.mem_append_left _ (List.mem_append_right _ h))))))))), List.forall_mem_cons.mpr ⟨fun _ h => wsL_law_in _ (List.mem_append_left _ (List.mem_append_left _ (List.mem_append_left _ (List.mem_append_left _ (List.mem_append_left _ (List.mem_append_left _ (List.mem_append_left _ (List.mem_append_right _ h)))))))), fun _ h => absurd h List.not_mem_nil⟩⟩⟩⟩⟩⟩⟩⟩
theorem wf1 : Cond.arrayOf (.static "SignCharts" "TICK_STEPS" "[I") .int ∈ flatC (Jvm.Cond.and given_1 narrow_1) := by decide +kernel
theorem wf2 : Cond.arrayOf (.static "SignCharts" "DOT_BITS" "[I") .int ∈ flatC (Jvm.Cond.and given_1 narrow_1) := by decide +kernel
theorem wf3 : Cond.arrayOf (.static "java/util/ArrayList" "DEFAULTCAPACITY_EMPTY_ELEMENTDATA" "[Ljava/lang/Object;") (.object "java/lang/Object") ∈ flatC (Jvm.Cond.and given_1 narrow_1) := by decide +kernel
theorem wf4 : Cond.eq (.length (.static "SignCharts" "TICK_STEPS" "[I")) (.int 25) ∈ flatC (Jvm.Cond.and given_1 narrow_1) := by decide +kernel
theorem wf5 : Cond.eq (.length (.static "SignCharts" "DOT_BITS" "[I")) (.int 8) ∈ flatC (Jvm.Cond.and given_1 narrow_1) := by decide +kernel
theorem wf6 : Cond.eq (.length (.static "java/util/ArrayList" "DEFAULTCAPACITY_EMPTY_ELEMENTDATA" "[Ljava/lang/Object;")) (.int 0) ∈ flatC (Jvm.Cond.and given_1 narrow_1) := by decide +kernel
theorem wg0 : Cond.eq (.elem (.static "SignCharts" "TICK_STEPS" "[I") (.int 0)) (.int 1) ∈ flatC (Jvm.Cond.and given_1 narrow_1) := by decide +kernel
theorem wg1 : Cond.eq (.elem (.static "SignCharts" "TICK_STEPS" "[I") (.int 1)) (.int 2) ∈ flatC (Jvm.Cond.and given_1 narrow_1) := by decide +kernel
theorem wg2 : Cond.eq (.elem (.static "SignCharts" "TICK_STEPS" "[I") (.int 2)) (.int 5) ∈ flatC (Jvm.Cond.and given_1 narrow_1) := by decide +kernel
theorem wg3 : Cond.eq (.elem (.static "SignCharts" "TICK_STEPS" "[I") (.int 3)) (.int 10) ∈ flatC (Jvm.Cond.and given_1 narrow_1) := by decide +kernel
theorem wg4 : Cond.eq (.elem (.static "SignCharts" "TICK_STEPS" "[I") (.int 4)) (.int 20) ∈ flatC (Jvm.Cond.and given_1 narrow_1) := by decide +kernel
theorem wg5 : Cond.eq (.elem (.static "SignCharts" "TICK_STEPS" "[I") (.int 5)) (.int 25) ∈ flatC (Jvm.Cond.and given_1 narrow_1) := by decide +kernel
theorem wg6 : Cond.eq (.elem (.static "SignCharts" "TICK_STEPS" "[I") (.int 6)) (.int 50) ∈ flatC (Jvm.Cond.and given_1 narrow_1) := by decide +kernel
theorem wg7 : Cond.eq (.elem (.static "SignCharts" "TICK_STEPS" "[I") (.int 7)) (.int 100) ∈ flatC (Jvm.Cond.and given_1 narrow_1) := by decide +kernel
theorem wg8 : Cond.eq (.elem (.static "SignCharts" "TICK_STEPS" "[I") (.int 8)) (.int 200) ∈ flatC (Jvm.Cond.and given_1 narrow_1) := by decide +kernel
theorem wg9 : Cond.eq (.elem (.static "SignCharts" "TICK_STEPS" "[I") (.int 9)) (.int 250) ∈ flatC (Jvm.Cond.and given_1 narrow_1) := by decide +kernel
theorem wg10 : Cond.eq (.elem (.static "SignCharts" "TICK_STEPS" "[I") (.int 10)) (.int 500) ∈ flatC (Jvm.Cond.and given_1 narrow_1) := by decide +kernel
theorem wg11 : Cond.eq (.elem (.static "SignCharts" "TICK_STEPS" "[I") (.int 11)) (.int 1000) ∈ flatC (Jvm.Cond.and given_1 narrow_1) := by decide +kernel
theorem wg12 : Cond.eq (.elem (.static "SignCharts" "TICK_STEPS" "[I") (.int 12)) (.int 2000) ∈ flatC (Jvm.Cond.and given_1 narrow_1) := by decide +kernel
theorem wg13 : Cond.eq (.elem (.static "SignCharts" "TICK_STEPS" "[I") (.int 13)) (.int 2500) ∈ flatC (Jvm.Cond.and given_1 narrow_1) := by decide +kernel
theorem wg14 : Cond.eq (.elem (.static "SignCharts" "TICK_STEPS" "[I") (.int 14)) (.int 5000) ∈ flatC (Jvm.Cond.and given_1 narrow_1) := by decide +kernel
theorem wg15 : Cond.eq (.elem (.static "SignCharts" "TICK_STEPS" "[I") (.int 15)) (.int 10000) ∈ flatC (Jvm.Cond.and given_1 narrow_1) := by decide +kernel
theorem wg16 : Cond.eq (.elem (.static "SignCharts" "TICK_STEPS" "[I") (.int 16)) (.int 20000) ∈ flatC (Jvm.Cond.and given_1 narrow_1) := by decide +kernel
theorem wg17 : Cond.eq (.elem (.static "SignCharts" "TICK_STEPS" "[I") (.int 17)) (.int 25000) ∈ flatC (Jvm.Cond.and given_1 narrow_1) := by decide +kernel
theorem wg18 : Cond.eq (.elem (.static "SignCharts" "TICK_STEPS" "[I") (.int 18)) (.int 50000) ∈ flatC (Jvm.Cond.and given_1 narrow_1) := by decide +kernel
theorem wg19 : Cond.eq (.elem (.static "SignCharts" "TICK_STEPS" "[I") (.int 19)) (.int 100000) ∈ flatC (Jvm.Cond.and given_1 narrow_1) := by decide +kernel
theorem wg20 : Cond.eq (.elem (.static "SignCharts" "TICK_STEPS" "[I") (.int 20)) (.int 200000) ∈ flatC (Jvm.Cond.and given_1 narrow_1) := by decide +kernel
theorem wg21 : Cond.eq (.elem (.static "SignCharts" "TICK_STEPS" "[I") (.int 21)) (.int 250000) ∈ flatC (Jvm.Cond.and given_1 narrow_1) := by decide +kernel
theorem wg22 : Cond.eq (.elem (.static "SignCharts" "TICK_STEPS" "[I") (.int 22)) (.int 500000) ∈ flatC (Jvm.Cond.and given_1 narrow_1) := by decide +kernel
theorem wg23 : Cond.eq (.elem (.static "SignCharts" "TICK_STEPS" "[I") (.int 23)) (.int 1000000) ∈ flatC (Jvm.Cond.and given_1 narrow_1) := by decide +kernel
theorem wg24 : Cond.eq (.elem (.static "SignCharts" "TICK_STEPS" "[I") (.int 24)) (.int 2000000) ∈ flatC (Jvm.Cond.and given_1 narrow_1) := by decide +kernel
theorem wh0 : Cond.eq (.elem (.static "SignCharts" "DOT_BITS" "[I") (.int 0)) (.int 1) ∈ flatC (Jvm.Cond.and given_1 narrow_1) := by decide +kernel
theorem wh1 : Cond.eq (.elem (.static "SignCharts" "DOT_BITS" "[I") (.int 1)) (.int 2) ∈ flatC (Jvm.Cond.and given_1 narrow_1) := by decide +kernel
theorem wh2 : Cond.eq (.elem (.static "SignCharts" "DOT_BITS" "[I") (.int 2)) (.int 4) ∈ flatC (Jvm.Cond.and given_1 narrow_1) := by decide +kernel
theorem wh3 : Cond.eq (.elem (.static "SignCharts" "DOT_BITS" "[I") (.int 3)) (.int 64) ∈ flatC (Jvm.Cond.and given_1 narrow_1) := by decide +kernel
theorem wh4 : Cond.eq (.elem (.static "SignCharts" "DOT_BITS" "[I") (.int 4)) (.int 8) ∈ flatC (Jvm.Cond.and given_1 narrow_1) := by decide +kernel
theorem wh5 : Cond.eq (.elem (.static "SignCharts" "DOT_BITS" "[I") (.int 5)) (.int 16) ∈ flatC (Jvm.Cond.and given_1 narrow_1) := by decide +kernel
theorem wh6 : Cond.eq (.elem (.static "SignCharts" "DOT_BITS" "[I") (.int 6)) (.int 32) ∈ flatC (Jvm.Cond.and given_1 narrow_1) := by decide +kernel
theorem wh7 : Cond.eq (.elem (.static "SignCharts" "DOT_BITS" "[I") (.int 7)) (.int 128) ∈ flatC (Jvm.Cond.and given_1 narrow_1) := by decide +kernel
theorem x_arr {U : State} {cA : ClassId} {ty : FieldType} {k : Class} {comp : ClassId} (h2 : U.vm.classes[cA]? = some k) (h3 : k.kind = .array comp ty) : ArrOfT U cA ty := fun n z => ⟨fun k h => (by cases h), k, h2, comp, h3⟩
theorem x_know {s : State} {args : Array Value} (hts : ∀ w ∈ lw_tbl, w.before args s = true) (hgv : (Jvm.Cond.and given_1 narrow_1).before args s = true) : ∃ G : xG, xB G = s.heap.size ∧ xH0 G = s.heap ∧ xK G s ∧ xT3 G < s.heap.size := by
  have hs := flat_of_before _ hgv
  have hA : ∀ a : Nat, a < s.heap.size → ¬ (fun q : Nat => s.heap.size ≤ q) a := fun a h => Nat.not_le.mpr h
  have hk : ∀ k : Nat, ∃ (cC : ClassId) (iS : Nat → Nat), ∀ q : vw_C, vwCl[k]? = some q → u_Kn s q.1 q.2.1 q.2.2 cC iS := by
    intro k
    cases e : vwCl[k]? with
    | none => exact ⟨0, fun _ => 0, fun q h => by cases h⟩
    | some q =>
      have hm := List.mem_of_getElem? e
      obtain ⟨cC, iS, h⟩ := u_known (C := q.1) (T := q.2.1) (N := q.2.2) (n := q.2.2) hts (wt_lay q hm) (hts _ (wt_inst q hm))
      exact ⟨cC, iS, fun q' h' => by cases h'; exact h⟩
  obtain ⟨dC, hk⟩ := Classical.axiomOfChoice hk
  obtain ⟨dI, hk⟩ := Classical.axiomOfChoice hk
  obtain ⟨cI, kI, pI, a1, a2, a3⟩ := Cond.arrayClass_spec (hts _ wt6)
  obtain ⟨cZ, kZ, pZ, b1, b2, b3⟩ := Cond.arrayClass_spec (hts _ wt7)
  obtain ⟨pO, cO, kO, o1, o2, o3, o4, o5⟩ := Cond.arrayOver_spec (hts _ wt8)
  obtain ⟨t1, e1, r1⟩ := va_Tof (tm := .static "SignCharts" "TICK_STEPS" "[I") (ty := .int) (N := 25) (f := fun j => .int (xTick.getD j 0)) (A := fun q : Nat => s.heap.size ≤ q) (by decide) (hs _ wf1) (va_eqt (hs _ wf4)) (fun j hj => by
    rcases (show j = 0 ∨ j = 1 ∨ j = 2 ∨ j = 3 ∨ j = 4 ∨ j = 5 ∨ j = 6 ∨ j = 7 ∨ j = 8 ∨ j = 9 ∨ j = 10 ∨ j = 11 ∨ j = 12 ∨ j = 13 ∨ j = 14 ∨ j = 15 ∨ j = 16 ∨ j = 17 ∨ j = 18 ∨ j = 19 ∨ j = 20 ∨ j = 21 ∨ j = 22 ∨ j = 23 ∨ j = 24 by omega) with rfl | rfl | rfl | rfl | rfl | rfl | rfl | rfl | rfl | rfl | rfl | rfl | rfl | rfl | rfl | rfl | rfl | rfl | rfl | rfl | rfl | rfl | rfl | rfl | rfl
    · exact va_eqt (hs _ wg0)
    · exact va_eqt (hs _ wg1)
    · exact va_eqt (hs _ wg2)
    · exact va_eqt (hs _ wg3)
    · exact va_eqt (hs _ wg4)
    · exact va_eqt (hs _ wg5)
    · exact va_eqt (hs _ wg6)
    · exact va_eqt (hs _ wg7)
    · exact va_eqt (hs _ wg8)
    · exact va_eqt (hs _ wg9)
    · exact va_eqt (hs _ wg10)
    · exact va_eqt (hs _ wg11)
    · exact va_eqt (hs _ wg12)
    · exact va_eqt (hs _ wg13)
    · exact va_eqt (hs _ wg14)
    · exact va_eqt (hs _ wg15)
    · exact va_eqt (hs _ wg16)
    · exact va_eqt (hs _ wg17)
    · exact va_eqt (hs _ wg18)
    · exact va_eqt (hs _ wg19)
    · exact va_eqt (hs _ wg20)
    · exact va_eqt (hs _ wg21)
    · exact va_eqt (hs _ wg22)
    · exact va_eqt (hs _ wg23)
    · exact va_eqt (hs _ wg24)) hA
  obtain ⟨t2, e2, r2⟩ := va_Tof (tm := .static "SignCharts" "DOT_BITS" "[I") (ty := .int) (N := 8) (f := fun j => .int (xBits.getD j 0)) (A := fun q : Nat => s.heap.size ≤ q) (by decide) (hs _ wf2) (va_eqt (hs _ wf5)) (fun j hj => by
    rcases (show j = 0 ∨ j = 1 ∨ j = 2 ∨ j = 3 ∨ j = 4 ∨ j = 5 ∨ j = 6 ∨ j = 7 by omega) with rfl | rfl | rfl | rfl | rfl | rfl | rfl | rfl
    · exact va_eqt (hs _ wh0)
    · exact va_eqt (hs _ wh1)
    · exact va_eqt (hs _ wh2)
    · exact va_eqt (hs _ wh3)
    · exact va_eqt (hs _ wh4)
    · exact va_eqt (hs _ wh5)
    · exact va_eqt (hs _ wh6)
    · exact va_eqt (hs _ wh7)) hA
  obtain ⟨t3, e3, r3⟩ := va_Tof (tm := .static "java/util/ArrayList" "DEFAULTCAPACITY_EMPTY_ELEMENTDATA" "[Ljava/lang/Object;") (ty := .object "java/lang/Object") (N := 0) (f := fun _ => .null) (A := fun q : Nat => s.heap.size ≤ q) (by decide) (hs _ wf3) (va_eqt (hs _ wf6)) (fun j hj => absurd hj (Nat.not_lt_zero j)) hA
  have eO : "[" ++ (FieldType.object "java/lang/Object").toString = "[Ljava/lang/Object;" := by decide +kernel
  refine ⟨((dC, dI), (cI, cZ, cO), s.heap.size, s.heap, (t1, t2, t3)), rfl, rfl, ⟨⟨fun k q hq => hk k q hq, fun k q hq => ?_⟩, fun q hq w hw a => word_at (State.WarmedH.refl s) (good_of_word (xlay_good q hq w hw)) (hts w (wt_lay q hq w hw)), ⟨va_Zref (hts _ wt1) (hts _ wt4) e1 hA, va_Zref (hts _ wt2) (hts _ wt4) e2 hA, va_Zref (hts _ wt3) (hts _ wt5) e3 hA⟩, ⟨r1, r2, r3⟩, va_nm_int a1, va_nm_boolean b1, by rw [← eO]; exact o5, ⟨va_Nw.of rfl (hts _ wt9), va_Nw.of rfl (hts _ wt10), va_Nw.of rfl (hts _ wt11), va_Nw.of rfl (hts _ wt12), va_Nw.of rfl (hts _ wt13), va_AO.of (hts _ wt8)⟩⟩, ?_⟩
  · match k, hq with
    | 0, hq => cases hq; exact ⟨x_arr a2 a3, a1⟩
    | 1, hq => cases hq; exact ⟨x_arr b2 b3, b1⟩
    | 2, hq => cases hq; exact ⟨x_arr o3 o4, kO, pO, o3, o4, o1, o5⟩
    | k + 3, hq => cases hq
  · obtain ⟨cell, -, -, -, -, -, -, q⟩ := r3
    exact Nat.not_le.mp q
