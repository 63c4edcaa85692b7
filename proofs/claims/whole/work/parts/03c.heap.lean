theorem xcl_ty {ci : Nat} {C : String} {T : u_T} {N : Nat} (h : vwCl[ci]? = some (C, T, N)) : ∃ ty : Nat → FieldType, ∀ k, k < N → parseFieldDescriptor (T k).2.2.1 = some (ty k) := by
  match ci, h with
  | 0, h => cases h; exact ⟨_, tyJx4a65c_ok⟩
  | 1, h => cases h; exact ⟨_, tyX0_ok⟩
  | 2, h => cases h; exact ⟨_, tyX1_ok⟩
  | 3, h => cases h; exact ⟨_, tyX2_ok⟩
  | 4, h => cases h; exact ⟨_, tyX3_ok⟩
  | 5, h => cases h; exact ⟨_, tyX4_ok⟩
  | 6, h => cases h; exact ⟨_, tyX5_ok⟩
  | 7, h => cases h; exact ⟨_, tyX6_ok⟩
  | k + 8, h => simp [vwCl] at h
theorem xcl_nm {ci : Nat} {C : String} {T : u_T} {N : Nat} (h : vwCl[ci]? = some (C, T, N)) : ∀ a, a < N → ∀ b, b < N → a ≠ b → (T a).2.1 ≠ (T b).2.1 := by
  match ci, h with
  | 0, h => cases h; exact nmJx4a65c
  | 1, h => cases h; exact nmX0
  | 2, h => cases h; exact nmX1
  | 3, h => cases h; exact nmX2
  | 4, h => cases h; exact nmX3
  | 5, h => cases h; exact nmX4
  | 6, h => cases h; exact nmX5
  | 7, h => cases h; exact nmX6
  | k + 8, h => simp [vwCl] at h
theorem xWd.p1 {G : xG} {h : xH} {H : Heap} {a : Nat} {c : va_E} (hW : xWd G h H) (hh : h a = some c) : va_P (xD G) vwCl [(a, c)] H := by
  intro k q hq
  match k, hq with
  | 0, hq => cases hq; exact (hW.2.2 a c hh).1
  | k + 1, hq => simp at hq
theorem xWd.put {G : xG} {h : xH} {H H' : Heap} {a : Nat} {c : va_E} (hW : xWd G h H) (hB : xB G ≤ a) (z : H'.size = H.size) (oq : ∀ q, q ≠ a → H'[q]? = H[q]?) (hc : va_at (xD G) vwCl (a, c) H') : xWd G (xup h a c) H' := by
  refine ⟨by rw [z]; exact hW.1, fun q hq => (oq q (by omega)).trans (hW.2.1 q hq), fun b c' hb => ?_⟩
  by_cases e : b = a
  · subst e
    rw [xup_s] at hb
    cases hb
    exact ⟨hc, hB⟩
  · rw [xup_n e] at hb
    exact ⟨((hW.2.2 b c' hb).1).kept (oq b e), (hW.2.2 b c' hb).2⟩
theorem xWd.add {G : xG} {h : xH} {H H' : Heap} {c : va_E} (hW : xWd G h H) (z : H'.size = H.size + 1) (oq : ∀ q, q < H.size → H'[q]? = H[q]?) (hc : va_at (xD G) vwCl (H.size, c) H') : xWd G (xup h H.size c) H' := by
  refine ⟨by rw [z]; exact Nat.le_succ_of_le hW.1, fun q hq => (oq q (Nat.lt_of_lt_of_le hq hW.1)).trans (hW.2.1 q hq), fun b c' hb => ?_⟩
  by_cases e : b = H.size
  · subst e
    rw [xup_s] at hb
    cases hb
    exact ⟨hc, hW.1⟩
  · rw [xup_n e] at hb
    exact ⟨((hW.2.2 b c' hb).1).kept (oq b ((hW.2.2 b c' hb).1).lt), (hW.2.2 b c' hb).2⟩
theorem xWd.fresh {G : xG} {h : xH} {H : Heap} (hW : xWd G h H) : h H.size = none := by
  cases hh : h H.size with
  | none => rfl
  | some c => exact absurd ((hW.2.2 _ c hh).1).lt (Nat.lt_irrefl _)
theorem xlo {G : xG} {locs : List Loc} {a i : Nat} (h : ∀ q ∈ locs, xB G ≤ q.base) (ha : xB G ≤ a) : ∀ q ∈ locs ++ [⟨a, i⟩], xB G ≤ q.base := by
  intro q hq
  rcases List.mem_append.mp hq with hq | hq
  · exact h q hq
  · rw [List.mem_singleton.mp hq]; exact ha
theorem xts {G : xG} {M : xM} {p : Program} {s : State} {m : MethodId} {args : Array Value} {meth : Method} {c : Code} (C : xC G M p s m args meth c) {ci : Nat} {q : vw_C} (hc : vwCl[ci]? = some q) : ∀ w ∈ u_ws q.1 q.2.1 q.2.2, w.before args s = true := fun w hw => C.2.2.2.2.2.2.2.1.2.1 q (List.mem_of_getElem? hc) w hw args
section XH
variable {G : xG} {l : Launch} {M : xM} {d mc ms k n pc : Nat} {L st : List Value} {h : xH} {Q : Option Value → xH → Prop}
theorem x_get {ci i a : Nat} {fs : List Value} {C : String} {T : u_T} {N : Nat} {v : Value} (kf : Nat) (hd : decode M.2.1 pc = .ok (.getfield i, 3)) (hh : h a = some (.inr (ci, fs))) (hc : vwCl[ci]? = some (C, T, N)) (hk : kf < N) (hw : Cond.fieldLink M.1.cls i (T kf).1 (T kf).2.1 (T kf).2.2.1 ∈ M.2.2.2.2) (hv : fs[kf]? = some v) (kk : xV G l M d mc ms k n (pc + 3) L (v :: st) h Q) : xV G l M d mc ms k n pc L (.ref a :: st) h Q :=
  fun p e s m args below meth c C H locs ls hW hlo hL => va_get C.1 C.2.1 (xts C hc) (fun _ z => z) C.2.2.2.2.1 C.2.2.2.2.2.2.2.1.1 (hW.p1 hh) 0 rfl hc kf hk (C.2.2.2.2.2.1 _ hw) (fun _ z => z) hv hd (kk p e s m args below meth c C H locs ls hW hlo hL)
/-- a field that the class inherits: its link names the class itself -/
theorem x_getI {ci i a : Nat} {fs : List Value} {C : String} {T : u_T} {N : Nat} {v : Value} (kf : Nat) (hd : decode M.2.1 pc = .ok (.getfield i, 3)) (hh : h a = some (.inr (ci, fs))) (hc : vwCl[ci]? = some (C, T, N)) (hk : kf < N) (hw : Cond.fieldLink M.1.cls i C (T kf).2.1 (T kf).2.2.1 ∈ M.2.2.2.2) (hsame : ∀ (args : Array Value) (s : State), (∀ w ∈ M.2.2.2.2, w.before args s = true) → ∀ x, s.fieldFound? (T kf).1 (T kf).2.1 (T kf).2.2.1 = some x → s.fieldFound? C (T kf).2.1 (T kf).2.2.1 = some x) (hv : fs[kf]? = some v) (kk : xV G l M d mc ms k n (pc + 3) L (v :: st) h Q) : xV G l M d mc ms k n pc L (.ref a :: st) h Q :=
  fun p e s m args below meth c C H locs ls hW hlo hL => va_get C.1 C.2.1 (xts C hc) (fun _ z => z) C.2.2.2.2.1 C.2.2.2.2.2.2.2.1.1 (hW.p1 hh) 0 rfl hc kf hk (C.2.2.2.2.2.1 _ hw) (hsame args s C.2.2.2.2.2.1) hv hd (kk p e s m args below meth c C H locs ls hW hlo hL)
theorem x_putG {ci i a : Nat} {fs : List Value} {C ref : String} {T : u_T} {N : Nat} {v : Value} {ty : FieldType} (kf : Nat) (hd : decode M.2.1 pc = .ok (.putfield i, 3)) (hh : h a = some (.inr (ci, fs))) (hc : vwCl[ci]? = some (C, T, N)) (hk : kf < N) (hw : Cond.fieldLink M.1.cls i ref (T kf).2.1 (T kf).2.2.1 ∈ M.2.2.2.2) (hsame : ∀ (args : Array Value) (s : State), (∀ w ∈ M.2.2.2.2, w.before args s = true) → ∀ x, s.fieldFound? (T kf).1 (T kf).2.1 (T kf).2.2.1 = some x → s.fieldFound? ref (T kf).2.1 (T kf).2.2.1 = some x) (hfin : (T kf).2.2.2 = false) (hty : parseFieldDescriptor (T kf).2.2.1 = some ty) (hn : narrow ty v = v) (hfit : fits ty v = true) (hlen : kf < fs.length)
    (kk : xV G l M d mc ms k n (pc + 3) L st (xup h a (.inr (ci, fs.set kf v))) Q) : xV G l M d mc ms k n pc L (v :: .ref a :: st) h Q := by
  intro p e s m args below meth c C9 H locs ls hW hlo hL
  have hK := C9.2.2.2.2.2.2.2.1.1
  have hts := xts C9 hc
  obtain ⟨ty0, hty0⟩ := xcl_ty hc
  have hap := va_apart (own := C) hts (fun _ z => z) ty0 hty0 (xcl_nm hc) hK hc
  have hB := (hW.2.2 a _ hh).2
  obtain ⟨r, h1, cell, q1, q2, q3, q4⟩ := (hW.2.2 a _ hh).1
  have hr : r = (C, T, N) := Option.some.inj (h1.symm.trans hc)
  subst hr
  obtain ⟨hS, hfc, kC, hkC, hkind⟩ := hK.1 ci _ hc
  obtain ⟨cf, kf', fi, f, hi, hsl⟩ := hS kf hk
  have hlay := hts _ (u_in_lay hk)
  unfold u_lay at hlay
  rw [if_neg (by rw [hfin]; decide)] at hlay
  have hst := (u_facts hfc hkC (u_lays hts (fun _ z => z) hk) hi).1
  have h6 := u_store hfc hkC hkind hlay hi hty hn hfit
  refine W.putK C9.1 C9.2.1 (f := f) ⟨C9.2.2.2.2.1, C9.2.2.2.2.2.1 _ hw, ⟨_, _, _, hsame args s C9.2.2.2.2.2.1 _ hi⟩, hst⟩ (by rw [q2]; exact h6) q1 q3 (by rw [hsl]; exact k2_hasslot (q4 kf hk)) rfl rfl hd fun H' e1 e2 e3 => ?_
  rw [hsl] at e1 ⊢
  exact kk p e s m args below meth c C9 H' _ ls (hW.put hB e2 e3 ⟨_, hc, t_OB.to (V := updV (vp_V fs) kf v) ⟨_, e1, q2, q3, t_set q4 hap hk v⟩ (fun j _ => vp_updV_set hlen v j)⟩) (xlo hlo hB) hL
theorem x_put {ci i a : Nat} {fs : List Value} {C : String} {T : u_T} {N : Nat} {v : Value} {ty : FieldType} (kf : Nat) (hd : decode M.2.1 pc = .ok (.putfield i, 3)) (hh : h a = some (.inr (ci, fs))) (hc : vwCl[ci]? = some (C, T, N)) (hk : kf < N) (hw : Cond.fieldLink M.1.cls i (T kf).1 (T kf).2.1 (T kf).2.2.1 ∈ M.2.2.2.2) (hfin : (T kf).2.2.2 = false) (hty : parseFieldDescriptor (T kf).2.2.1 = some ty) (hn : narrow ty v = v) (hfit : fits ty v = true) (hlen : kf < fs.length)
    (kk : xV G l M d mc ms k n (pc + 3) L st (xup h a (.inr (ci, fs.set kf v))) Q) : xV G l M d mc ms k n pc L (v :: .ref a :: st) h Q :=
  x_putG kf hd hh hc hk hw (fun _ _ _ _ z => z) hfin hty hn hfit hlen kk
/-- a final field, in its class's own constructor -/
theorem x_putF {ci i a : Nat} {fs : List Value} {C : String} {T : u_T} {N : Nat} {v : Value} {ty : FieldType} (kf : Nat) (hd : decode M.2.1 pc = .ok (.putfield i, 3)) (hh : h a = some (.inr (ci, fs))) (hc : vwCl[ci]? = some (C, T, N)) (hk : kf < N) (hw : Cond.fieldLink M.1.cls i (T kf).1 (T kf).2.1 (T kf).2.2.1 ∈ M.2.2.2.2) (hfin : (T kf).2.2.2 = true) (hin2 : M.1.name = "<init>") (hdecl : (T kf).1 = M.1.cls) (hty : parseFieldDescriptor (T kf).2.2.1 = some ty) (hn : narrow ty v = v) (hfit : fits ty v = true) (hlen : kf < fs.length)
    (kk : xV G l M d mc ms k n (pc + 3) L st (xup h a (.inr (ci, fs.set kf v))) Q) : xV G l M d mc ms k n pc L (v :: .ref a :: st) h Q := by
  intro p e s m args below meth c C9 H locs ls hW hlo hL
  have hK := C9.2.2.2.2.2.2.2.1.1
  have hts := xts C9 hc
  have hown := C9.2.2.2.2.1
  obtain ⟨ty0, hty0⟩ := xcl_ty hc
  have hap := va_apart (own := C) hts (fun _ z => z) ty0 hty0 (xcl_nm hc) hK hc
  have hB := (hW.2.2 a _ hh).2
  obtain ⟨r, h1, cell, q1, q2, q3, q4⟩ := (hW.2.2 a _ hh).1
  have hr : r = (C, T, N) := Option.some.inj (h1.symm.trans hc)
  subst hr
  obtain ⟨hS, hfc, kC, hkC, hkind⟩ := hK.1 ci _ hc
  obtain ⟨cf, kf', fi, f, hi, hsl⟩ := hS kf hk
  have hlay := hts _ (u_in_lay hk)
  unfold u_lay at hlay
  rw [if_pos hfin] at hlay
  have hst := (u_facts hfc hkC (u_lays hts (fun _ z => z) hk) hi).1
  have hcf : m.cls = cf := by
    obtain ⟨_, _, c', _, _, _, -, -, hf', -, -, -, hown2, -⟩ := Cond.laysFinal_spec hlay
    have e1 : c' = cf := by have := hi.symm.trans hf'; simp at this; exact this.1.symm
    rw [hdecl] at hown2
    rw [← e1]; exact Option.some.inj (hown.symm.trans hown2)
  have h6 := u_fits hfc hkC hkind (Or.inr hlay) hi hty hn hfit
  refine W.putFinK C9.1 C9.2.1 hown (C9.2.2.2.2.2.1 _ hw) hi hst hcf (C9.2.2.2.2.2.2.2.2.trans hin2) (by rw [q2]; exact h6) q1 q3 (by rw [hsl]; exact k2_hasslot (q4 kf hk)) rfl rfl hd fun H' e1 e2 e3 => ?_
  rw [hsl] at e1 ⊢
  exact kk p e s m args below meth c C9 H' _ ls (hW.put hB e2 e3 ⟨_, hc, t_OB.to (V := updV (vp_V fs) kf v) ⟨_, e1, q2, q3, t_set q4 hap hk v⟩ (fun j _ => vp_updV_set hlen v j)⟩) (xlo hlo hB) hL
-- rows
theorem x_iald {a m9 : Nat} {f : Nat → Int32} {i : Int32} (hd : decode M.2.1 pc = .ok (.iaload, 1)) (hh : h a = some (xRi G m9 f)) (hin : vp_in i m9) (kk : xV G l M d mc ms k n (pc + 1) L (.int (f i.toNatClampNeg) :: st) h Q) : xV G l M d mc ms k n pc L (.int i :: .ref a :: st) h Q :=
  fun p e s m args below meth c C H locs ls hW hlo hL => va_iald C.1 C.2.1 C.2.2.2.2.2.2.2.1.1 (hW.p1 hh) 0 0 rfl rfl hin hd (kk p e s m args below meth c C H locs ls hW hlo hL)
theorem x_zald {a m9 : Nat} {f : Nat → Int32} {i : Int32} (hd : decode M.2.1 pc = .ok (.baload, 1)) (hh : h a = some (xRz G m9 f)) (hin : vp_in i m9) (kk : xV G l M d mc ms k n (pc + 1) L (.int (f i.toNatClampNeg) :: st) h Q) : xV G l M d mc ms k n pc L (.int i :: .ref a :: st) h Q :=
  fun p e s m args below meth c C H locs ls hW hlo hL => va_zald C.1 C.2.1 C.2.2.2.2.2.2.2.1.1 (hW.p1 hh) 0 1 rfl rfl hin hd (kk p e s m args below meth c C H locs ls hW hlo hL)
theorem x_aald {a m9 : Nat} {f : Nat → Option Nat} {i : Int32} {b : Nat} (hd : decode M.2.1 pc = .ok (.aaload, 1)) (hh : h a = some (xRo G m9 f)) (hin : vp_in i m9) (hb : f i.toNatClampNeg = some b) (kk : xV G l M d mc ms k n (pc + 1) L (.ref b :: st) h Q) : xV G l M d mc ms k n pc L (.int i :: .ref a :: st) h Q :=
  fun p e s m args below meth c C H locs ls hW hlo hL => va_aldq C.1 C.2.1 C.2.2.2.2.2.2.2.1.1 (hW.p1 hh) 0 2 rfl rfl hin hd (by rw [hb]; exact kk p e s m args below meth c C H locs ls hW hlo hL)
theorem x_alenI {a m9 : Nat} {f : Nat → Int32} {v : Int32} (hd : decode M.2.1 pc = .ok (.arraylength, 1)) (hh : h a = some (xRi G m9 f)) (hv : Int32.ofNat m9 = v) (kk : xV G l M d mc ms k n (pc + 1) L (.int v :: st) h Q) : xV G l M d mc ms k n pc L (.ref a :: st) h Q :=
  fun p e s m args below meth c C H locs ls hW hlo hL => va_alen C.1 C.2.1 C.2.2.2.2.2.2.2.1.1 (hW.p1 hh) 0 0 rfl (ty := .int) rfl hv hd (kk p e s m args below meth c C H locs ls hW hlo hL)
theorem x_alenO {a m9 : Nat} {f : Nat → Option Nat} {v : Int32} (hd : decode M.2.1 pc = .ok (.arraylength, 1)) (hh : h a = some (xRo G m9 f)) (hv : Int32.ofNat m9 = v) (kk : xV G l M d mc ms k n (pc + 1) L (.int v :: st) h Q) : xV G l M d mc ms k n pc L (.ref a :: st) h Q :=
  fun p e s m args below meth c C H locs ls hW hlo hL => va_alen C.1 C.2.1 C.2.2.2.2.2.2.2.1.1 (hW.p1 hh) 0 2 rfl (ty := .object "java/lang/Object") rfl hv hd (kk p e s m args below meth c C H locs ls hW hlo hL)
theorem x_iast {a m9 : Nat} {f : Nat → Int32} {i x : Int32} (hd : decode M.2.1 pc = .ok (.iastore, 1)) (hh : h a = some (xRi G m9 f)) (hin : vp_in i m9) (kk : xV G l M d mc ms k n (pc + 1) L st (xup h a (xRi G m9 (upd f i.toNatClampNeg x))) Q) : xV G l M d mc ms k n pc L (.int x :: .int i :: .ref a :: st) h Q := by
  intro p e s m args below meth c C H locs ls hW hlo hL
  have hB := (hW.2.2 a _ hh).2
  refine W.iast C.1 C.2.1 (hW.2.2 a _ hh).1 ((C.2.2.2.2.2.2.2.1.1.2 0 _ rfl).1 m9 (fun j => .int (f j))) (fun q => by cases q) (by show ¬ (i < 0 ∨ (arrV _ _ _).slots.size ≤ _); rw [arrV_size]; exact hin) rfl rfl hd fun H1 e1 z oq => ?_
  refine kk p e s m args below meth c C H1 _ ls (hW.put hB z oq ?_) (xlo hlo hB) hL
  show H1[a]? = some (vp_cell _ _)
  rw [e1]
  rw [vp_cell_i, vp_cell_i, arrV_store]
  congr 2
  funext q
  by_cases hq : q = i.toNatClampNeg
  · subst hq
    simp [updV, upd]
  · simp [updV, upd, hq]
theorem x_zast {a m9 : Nat} {f : Nat → Int32} {i x : Int32} (hd : decode M.2.1 pc = .ok (.bastore, 1)) (hh : h a = some (xRz G m9 f)) (hin : vp_in i m9) (hx : narrow .boolean (.int x) = .int x) (kk : xV G l M d mc ms k n (pc + 1) L st (xup h a (xRz G m9 (upd f i.toNatClampNeg x))) Q) : xV G l M d mc ms k n pc L (.int x :: .int i :: .ref a :: st) h Q := by
  intro p e s m args below meth c C H locs ls hW hlo hL
  have hB := (hW.2.2 a _ hh).2
  refine W.zast C.1 C.2.1 (hW.2.2 a _ hh).1 ((C.2.2.2.2.2.2.2.1.1.2 1 _ rfl).1 m9 (fun j => .int (f j))) (fun q => by cases q) (by show ¬ (i < 0 ∨ (arrV _ _ _).slots.size ≤ _); rw [arrV_size]; exact hin) rfl rfl hd fun H1 e1 z oq => ?_
  refine kk p e s m args below meth c C H1 _ ls (hW.put hB z oq ?_) (xlo hlo hB) hL
  show H1[a]? = some (vp_cell _ _)
  rw [e1, hx]
  rw [vp_cell_i, vp_cell_i, arrV_store]
  congr 2
  funext q
  by_cases hq : q = i.toNatClampNeg
  · subst hq
    simp [updV, upd]
  · simp [updV, upd, hq]
end XH
