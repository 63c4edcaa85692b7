/-- a method's constants: its class may be called, its words begin with its code, its locals are few, it takes so many parameters -/
def xOk (M : xM) (nn : Nat) : Prop := plainFor M.1 = true ∧ (M.1.cls ≠ "java/lang/invoke/MethodHandle" ∧ M.1.cls ≠ "java/lang/invoke/VarHandle" ∧ (parseMethodDescriptor M.1.desc).map (fun d => d.parameters.length) = some nn) ∧ M.2.2.1 ≤ 13 ∧ ∃ ws', M.2.2.2.2 = Cond.code M.1 M.2.1 M.2.2.1 M.2.2.2.1 :: ws'
/-- the locals at a method's entry -/
def xfl : List Value → List Value
  | [] => []
  | v :: vs => if v.category = 2 then v :: xU :: xfl vs else v :: xfl vs
def xen (vs : List Value) (n : Nat) : List Value := xfl vs ++ List.replicate (n - (xfl vs).length) xU
theorem xfl_len (vs : List Value) : (xfl vs).length = (lg_sl vs).length := by
  induction vs with
  | nil => rfl
  | cons v vs ih =>
    have e : lg_sl (v :: vs) = (if v.category = 2 then [Slot.val v, .second] else [Slot.val v]) ++ lg_sl vs := rfl
    rw [e]
    by_cases hv : v.category = 2
    · simp [xfl, hv, ih]
    · simp [xfl, hv, ih]
theorem xfl_mem : ∀ {vs : List Value} {j i : Nat} {v : Value}, (xfl vs)[i]? = some v → v ≠ xU → (j + i, v) ∈ lv_args j vs := by
  intro vs
  induction vs with
  | nil => intro j i v h; simp [xfl] at h
  | cons w vs ih =>
    intro j i v h hu
    rw [lv_args]
    by_cases hw : w.category = 2
    · rw [xfl, if_pos hw] at h
      rw [if_pos hw]
      match i, h with
      | 0, h => simp at h; subst h; simp
      | 1, h => simp at h; exact absurd h.symm hu
      | i + 2, h =>
        have h2 := ih (j := j + 2) (i := i) (by simpa using h) hu
        rw [show j + (i + 2) = j + 2 + i by omega]
        exact List.mem_cons_of_mem _ h2
    · rw [xfl, if_neg hw] at h
      rw [if_neg hw]
      match i, h with
      | 0, h => simp at h; subst h; simp
      | i + 1, h =>
        have h2 := ih (j := j + 1) (i := i) (by simpa using h) hu
        rw [show j + (i + 1) = j + 1 + i by omega]
        exact List.mem_cons_of_mem _ h2
theorem xen_ls {vs : List Value} {n : Nat} (hn : (xfl vs).length ≤ n) : xLs ((lg_sl vs ++ List.replicate (n - (lg_sl vs).length) Slot.unset).toArray) n (xen vs n) := by
  have h := lv_entry vs (n := n) (by rw [← xfl_len]; exact hn)
  refine ⟨h.1, h.2.1, fun i v hv hu => ?_⟩
  have h2 : (xfl vs)[i]? = some v := by
    by_cases hi : i < (xfl vs).length
    · rw [xen, List.getElem?_append_left hi] at hv; exact hv
    · rw [xen, List.getElem?_append_right (by omega)] at hv
      rw [List.getElem?_replicate] at hv
      split at hv
      · exact absurd (Option.some.inj hv).symm hu
      · cases hv
  have h3 := xfl_mem (j := 0) h2 hu
  rw [Nat.zero_add] at h3
  exact h.2.2 (i, v) h3
theorem xMet {G : xG} {l : Launch} {M : xM} {d mc ms nn : Nat} {as : List Value} {h : xH} {Q : Option Value → xH → Prop} (hm : xOk M nn) (hlen : (xfl as).length ≤ M.2.2.1) (hv : xV G l M d mc ms 0 0 0 (xen as M.2.2.1) [] h Q) :
    Met l M.1 M.2.2.2.2 (xR d mc ms) (va_Pc as (fun U => xWd G h U.heap ∧ xK G U)) (xQ G Q) mc ms (fun q => xB G ≤ q) := by
  obtain ⟨hy, -, -, ws', hw⟩ := hm
  refine MetFree.of_bodySF (code := M.2.1) (maxLocals := M.2.2.1) (ret := M.2.2.2.1) hy ?_ ?_
  · intro args s m h9 hn
    obtain ⟨meth, c, h1, h2, h3, h4, h5, h6, -, -⟩ := Cond.code_spec hn (atoms_spec (ws := M.2.2.2.2) h9 _ (by rw [hw]; exact List.mem_cons_self))
    exact ⟨meth, c, h1, h2, h3, h4, h5, h6⟩
  · intro p e s m args below meth c s₁ B hml hpre _
    have hh0 : s₁.heap = s.heap := by rw [B.state]; rfl
    obtain ⟨rfl, hW, hK⟩ := hpre
    have hv2 := hv p e s m _ below meth c ⟨B.exec, B.bytes, B.returns, hml, findClass_of_methodNamed B.named, atoms_spec (ws := M.2.2.2.2) B.pre, B.notSynchronized, hK, (name_of_methodNamed B.named B.method).1⟩ s.heap [] _ hW (fun q hq => by cases hq) (xen_ls hlen)
    rw [← lg_entry_eq] at hv2
    obtain ⟨t, a1, o, b1, b2, b3⟩ := hv2 s₁ hh0 (Stand.of_body B)
    exact ⟨t, o, a1, b1, b2, ⟨b3.1, b3.2⟩⟩
theorem xblind {G : xG} {h : xH} {as : List Value} : FrameBlind (va_Pc as (fun U => xWd G h U.heap ∧ xK G U)) := by
  intro a U g mk hp
  obtain ⟨h1, h2, h3⟩ := hp
  exact ⟨h1, h2, xK.to (s := U) (U := U.calling g mk a) (State.WarmedH.refl U) h3⟩
section XC
variable {G : xG} {l : Launch} {M M' : xM} {d d' mc ms mc' ms' k n pc i nn : Nat} {L st0 As rest : List Value} {h : xH} {Q : Option Value → xH → Prop}
theorem xgo {p : Program} {e : Env} {s : State} {m : MethodId} {args : Array Value} {below : List Frame} {meth : Method} {c : Code} {H : Heap} {locs : List Loc} {ls : Array Slot} {a : Array Value} (C : xC G M p s m args meth c) (hlo : ∀ q ∈ locs, xB G ≤ q.base) (hL : xLs ls M.2.2.1 L)
    (hr : va_Run p l e (xR d mc ms) s m args below meth c H locs k n mc' ms' (F0 m pc ls st0) rest (xQ G (fun r h' => xV G l M d mc ms (k + mc') (n + ms') (pc + 3) L (r.toList ++ rest) h' Q) a) (fun q => xB G ≤ q)) : W p l e (xR d mc ms) s m args below meth c H locs k n (MQ below (xQ G Q) args s mc ms (fun q => xB G ≤ q)) (F0 m pc ls st0) := by
  intro T hT X
  obtain ⟨v, st₀, t, T', L', h0, X', hL', e1, e2, ⟨r, h', hv, hq, hw'⟩, st⟩ := hr T hT X
  cases hv
  obtain ⟨t2, a1, b1⟩ := hq p e s m args below meth c C T'.heap (locs ++ L') ls (by rw [e1]; exact hw') (fun q hq => by
    rcases List.mem_append.mp hq with z | z
    · exact hlo q z
    · exact hL' q z) hL T' rfl X'
  exact ⟨t2, st t2 a1, b1⟩
theorem xroom (hd : d' + 1 ≤ d) (hm : M'.2.2.1 ≤ 13) : (xR d' mc' ms').frames + 1 ≤ (xR d mc ms).frames ∧ 8 + (M'.2.2.1 + 11) + (xR d' mc' ms').locals ≤ (xR d mc ms).locals := by
  refine ⟨hd, ?_⟩
  show 8 + (M'.2.2.1 + 11) + 32 * d' ≤ 32 * d
  omega
/-- a call of an instance method: the callee's walk, and behind it the caller's -/
theorem x_callV {ci b N : Nat} {T : u_T} {fs : List Value} (hd : decode M.2.1 pc = .ok (.invokevirtual i, 3)) (hg : GoodIn M.2.2.2.2 (wsV M.1.cls i M'.1.cls M'.1 M'.2.2.2.2)) (hm : xOk M' nn) (hn : As.length = nn) (hst : st0 = As.reverse ++ .ref b :: rest) (hb : h b = some (.inr (ci, fs))) (hc : vwCl[ci]? = some (M'.1.cls, T, N)) (hlen : (xfl (.ref b :: As)).length ≤ M'.2.2.1) (hcat : (rest.map fun v => v.category).sum ≤ 8) (hdd : d' + 1 ≤ d) (hr1 : k + mc' ≤ mc) (hr2 : n + ms' ≤ ms)
    (body : xV G l M' d' mc' ms' 0 0 0 (xen (.ref b :: As) M'.2.2.1) [] h (fun r h' => xV G l M d mc ms (k + mc') (n + ms') (pc + 3) L (r.toList ++ rest) h' Q)) : xV G l M d mc ms k n pc L st0 h Q := by
  intro p e s m args below meth c C H locs ls hW hlo hL
  have hK := C.2.2.2.2.2.2.2.1
  obtain ⟨hm1, hm2, hm3, ws', hm4⟩ := id hm
  refine xgo C hlo hL (va_runV (As := As) (b := b) ⟨C.1, C.2.1, C.2.2.2.1, C.2.2.2.2.1, C.2.2.2.2.2.1⟩ (xMet hm hlen body) (cwV nn C.2.2.2.2.2.1 hg hm4 rfl rfl ⟨rfl, hm2⟩ (xroom hdd hm3)) ⟨xblind, va_recv hK.1 (hW.p1 hb) hc (q0 := 0) rfl, fun U hU hWm => ⟨rfl, by rw [hU]; exact hW, hK.to hWm⟩⟩ rfl hn hL.1 hst (lv_room hcat) hd ⟨hr1, hr2⟩)
theorem x_callS (hd : decode M.2.1 pc = .ok (.invokestatic i, 3)) (hg : GoodIn M.2.2.2.2 (va_wsS M.1.cls i M'.1 M'.2.2.2.2)) (hm : xOk M' nn) (hn : As.length = nn) (hst : st0 = As.reverse ++ rest) (hlen : (xfl As).length ≤ M'.2.2.1) (hcat : (rest.map fun v => v.category).sum ≤ 8) (hdd : d' + 1 ≤ d) (hr1 : k + mc' ≤ mc) (hr2 : n + ms' ≤ ms)
    (body : xV G l M' d' mc' ms' 0 0 0 (xen As M'.2.2.1) [] h (fun r h' => xV G l M d mc ms (k + mc') (n + ms') (pc + 3) L (r.toList ++ rest) h' Q)) : xV G l M d mc ms k n pc L st0 h Q := by
  intro p e s m args below meth c C H locs ls hW hlo hL
  have hK := C.2.2.2.2.2.2.2.1
  obtain ⟨hm1, hm2, hm3, ws', hm4⟩ := id hm
  refine xgo C hlo hL (va_runS (As := As) ⟨C.1, C.2.1, C.2.2.2.1, C.2.2.2.2.1, C.2.2.2.2.2.1⟩ (xMet hm hlen body) (va_cwS nn C.2.2.2.2.2.1 hg hm4 rfl rfl hm2 (xroom hdd hm3)) ⟨xblind, fun U hU hWm => ⟨rfl, by rw [hU]; exact hW, hK.to hWm⟩⟩ rfl hn hL.1 hst (lv_room hcat) hd ⟨hr1, hr2⟩)
theorem x_callI {b : Nat} (hd : decode M.2.1 pc = .ok (.invokespecial i, 3)) (hg : GoodIn M.2.2.2.2 M'.2.2.2.2) (hw1 : Cond.initialized M'.1.cls ∈ M.2.2.2.2) (hw2 : Cond.methodLink M.1.cls i M'.1 ∈ M.2.2.2.2) (hw3 : Cond.instanceMethod M'.1 ∈ M.2.2.2.2) (hnm : M'.1.name = "<init>") (hret : M'.2.2.2.1 = none) (hm : xOk M' nn) (hn : As.length = nn) (hst : st0 = As.reverse ++ .ref b :: rest) (hlen : (xfl (.ref b :: As)).length ≤ M'.2.2.1) (hcat : (rest.map fun v => v.category).sum ≤ 8) (hdd : d' + 1 ≤ d) (hr1 : k + mc' ≤ mc) (hr2 : n + ms' ≤ ms)
    (body : xV G l M' d' mc' ms' 0 0 0 (xen (.ref b :: As) M'.2.2.1) [] h (fun r h' => xV G l M d mc ms (k + mc') (n + ms') (pc + 3) L (r.toList ++ rest) h' Q)) : xV G l M d mc ms k n pc L st0 h Q := by
  intro p e s m args below meth c C H locs ls hW hlo hL
  have hK := C.2.2.2.2.2.2.2.1
  have hts := C.2.2.2.2.2.1
  obtain ⟨hm1, hm2, hm3, ws', hm4⟩ := id hm
  rw [hret] at hm4
  refine xgo C hlo hL (va_runI (As := As) (b := b) ⟨C.1, C.2.1, C.2.2.2.1, C.2.2.2.2.1, hts⟩ (xMet hm hlen body) (cwI nn hts hg hm4 rfl rfl (hts _ hw1) (hts _ hw2) (hts _ hw3) hnm hm2 (xroom hdd hm3)) ⟨xblind, fun U hU hWm => ⟨rfl, by rw [hU]; exact hW, hK.to hWm⟩⟩ rfl hn hL.1 hst (lv_room hcat) hd ⟨hr1, hr2⟩)
theorem x_callIN {b : Nat} {host : String} (hd : decode M.2.1 pc = .ok (.invokespecial i, 3)) (hg : GoodIn M.2.2.2.2 M'.2.2.2.2) (hw1 : Cond.initialized M'.1.cls ∈ M.2.2.2.2) (hw2 : ∀ s : State, xK G s → va_Nw (.methodLinkNest M.1.cls i M'.1 host) s) (hw3 : Cond.instanceMethod M'.1 ∈ M.2.2.2.2) (hnm : M'.1.name = "<init>") (hret : M'.2.2.2.1 = none) (hm : xOk M' nn) (hn : As.length = nn) (hst : st0 = As.reverse ++ .ref b :: rest) (hlen : (xfl (.ref b :: As)).length ≤ M'.2.2.1) (hcat : (rest.map fun v => v.category).sum ≤ 8) (hdd : d' + 1 ≤ d) (hr1 : k + mc' ≤ mc) (hr2 : n + ms' ≤ ms)
    (body : xV G l M' d' mc' ms' 0 0 0 (xen (.ref b :: As) M'.2.2.1) [] h (fun r h' => xV G l M d mc ms (k + mc') (n + ms') (pc + 3) L (r.toList ++ rest) h' Q)) : xV G l M d mc ms k n pc L st0 h Q := by
  intro p e s m args below meth c C H locs ls hW hlo hL
  have hK := C.2.2.2.2.2.2.2.1
  have hts := C.2.2.2.2.2.1
  obtain ⟨hm1, hm2, hm3, ws', hm4⟩ := id hm
  rw [hret] at hm4
  refine xgo C hlo hL (va_runIN (As := As) (b := b) ⟨C.1, C.2.1, C.2.2.2.1, C.2.2.2.2.1, hts⟩ (xMet hm hlen body) ⟨va_cnB nn hts hg hm4 rfl rfl (hw2 s hK) (hts _ hw1) hm2 (xroom hdd hm3), hnm, hts _ hw3⟩ ⟨xblind, fun U hU hWm => ⟨rfl, by rw [hU]; exact hW, hK.to hWm⟩⟩ rfl hn hL.1 hst (lv_room hcat) hd ⟨hr1, hr2⟩)
end XC
section XN
variable {G : xG} {l : Launch} {M : xM} {d mc ms k n pc i : Nat} {L st : List Value} {h : xH} {Q : Option Value → xH → Prop}
theorem x_objInit {a : Nat} (hd : decode M.2.1 pc = .ok (.invokespecial i, 3)) (hw1 : Cond.methodLink M.1.cls i objectInit ∈ M.2.2.2.2) (hw2 : Cond.instanceMethod objectInit ∈ M.2.2.2.2) (hw3 : Cond.code objectInit ⟨#[0xb1]⟩ 1 none ∈ M.2.2.2.2) (hcat : (st.map fun v => v.category).sum ≤ 8) (hdd : 1 ≤ d) (kk : xV G l M d mc ms k n (pc + 3) L st h Q) : xV G l M d mc ms k n pc L (.ref a :: st) h Q := by
  intro p e s m args below meth c C H locs ls hW hlo hL
  have hts := C.2.2.2.2.2.1
  refine W.objInit C.1 C.2.1 C.2.2.2.2.1 (hts _ hw1) (hts _ hw2) (hts _ hw3) rfl (hL.1.trans C.2.2.2.1.symm) rfl hd hdd ?_ (kk p e s m args below meth c C H locs ls hW hlo hL)
  show 2 * 0 + (st.map fun v => v.category).sum + 12 ≤ 32 * d
  omega
theorem x_mmax {x y : Int32} (hd : decode M.2.1 pc = .ok (.invokestatic i, 3)) (hw1 : Cond.methodLink M.1.cls i Lib.Math.max.name ∈ M.2.2.2.2) (hw2 : Cond.static Lib.Math.max.name ∈ M.2.2.2.2) (hw3 : Cond.initialized "java/lang/Math" ∈ M.2.2.2.2) (hw4 : Cond.code Lib.Math.max.name Lib.Math.max.code 2 (some .int) ∈ M.2.2.2.2) (hcat : (st.map fun v => v.category).sum ≤ 8) (hdd : 1 ≤ d) (hk : k ≤ mc) (hn : n ≤ ms) (kk : xV G l M d mc ms k n (pc + 3) L (.int (if x < y then y else x) :: st) h Q) : xV G l M d mc ms k n pc L (.int y :: .int x :: st) h Q := by
  intro p e s m args below meth c C H locs ls hW hlo hL
  have hts := C.2.2.2.2.2.1
  exact va_mmax C.1 C.2.1 (C.2.2.2.1.trans hL.1.symm) C.2.2.2.2.1 (hts _ hw1) (hts _ hw2) (hts _ hw3) (hts _ hw4) hdd (show _ + 13 ≤ 32 * d by omega) hk hn hd (kk p e s m args below meth c C H locs ls hW hlo hL)
theorem x_mmin {x y : Int32} (hd : decode M.2.1 pc = .ok (.invokestatic i, 3)) (hw1 : Cond.methodLink M.1.cls i Lib.Math.min.name ∈ M.2.2.2.2) (hw2 : Cond.static Lib.Math.min.name ∈ M.2.2.2.2) (hw3 : Cond.initialized "java/lang/Math" ∈ M.2.2.2.2) (hw4 : Cond.code Lib.Math.min.name Lib.Math.min.code 2 (some .int) ∈ M.2.2.2.2) (hcat : (st.map fun v => v.category).sum ≤ 8) (hdd : 1 ≤ d) (hk : k ≤ mc) (hn : n ≤ ms) (kk : xV G l M d mc ms k n (pc + 3) L (.int (if y < x then y else x) :: st) h Q) : xV G l M d mc ms k n pc L (.int y :: .int x :: st) h Q := by
  intro p e s m args below meth c C H locs ls hW hlo hL
  have hts := C.2.2.2.2.2.1
  exact va_mmin C.1 C.2.1 (C.2.2.2.1.trans hL.1.symm) C.2.2.2.2.1 (hts _ hw1) (hts _ hw2) (hts _ hw3) (hts _ hw4) hdd (show _ + 13 ≤ 32 * d by omega) hk hn hd (kk p e s m args below meth c C H locs ls hW hlo hL)
theorem x_mabs {x : Int32} (hd : decode M.2.1 pc = .ok (.invokestatic i, 3)) (hw1 : Cond.methodLink M.1.cls i Lib.Math.abs.name ∈ M.2.2.2.2) (hw2 : Cond.static Lib.Math.abs.name ∈ M.2.2.2.2) (hw3 : Cond.initialized "java/lang/Math" ∈ M.2.2.2.2) (hw4 : Cond.code Lib.Math.abs.name Lib.Math.abs.code 1 (some .int) ∈ M.2.2.2.2) (hcat : (st.map fun v => v.category).sum ≤ 8) (hdd : 1 ≤ d) (hk : k ≤ mc) (hn : n ≤ ms) (kk : xV G l M d mc ms k n (pc + 3) L (.int (if 0 ≤ x then x else 0 - x) :: st) h Q) : xV G l M d mc ms k n pc L (.int x :: st) h Q := by
  intro p e s m args below meth c C H locs ls hW hlo hL
  have hts := C.2.2.2.2.2.1
  exact va_mabs C.1 C.2.1 (C.2.2.2.1.trans hL.1.symm) C.2.2.2.2.1 (hts _ hw1) (hts _ hw2) (hts _ hw3) (hts _ hw4) hdd (show _ + 13 ≤ 32 * d by omega) hk hn hd (kk p e s m args below meth c C H locs ls hW hlo hL)
/-- a cast of one of our objects to its own class -/
theorem x_cast {a ci N : Nat} {C : String} {T : u_T} {fs : List Value} (hd : decode M.2.1 pc = .ok (.checkcast i, 3)) (hh : h a = some (.inr (ci, fs))) (hc : vwCl[ci]? = some (C, T, N)) (hw : Cond.classLink M.1.cls i C ∈ M.2.2.2.2) (kk : xV G l M d mc ms k n (pc + 3) L (.ref a :: st) h Q) : xV G l M d mc ms k n pc L (.ref a :: st) h Q :=
  fun p e s m args below meth c C9 H locs ls hW hlo hL => va_castS C9.1 C9.2.1 C9.2.2.2.2.1 (C9.2.2.2.2.2.1 _ hw) ((C9.2.2.2.2.2.2.2.1.1.1 ci _ hc).2) (va_recv C9.2.2.2.2.2.2.2.1.1 (hW.p1 hh) hc (q0 := 0) rfl) hd (kk p e s m args below meth c C9 H locs ls hW hlo hL)
/-- a static of a nest mate -/
theorem x_getsN {C nm ds host : String} {v : Value} (hd : decode M.2.1 pc = .ok (.getstatic i, 3)) (hz : ∀ s : State, xK G s → va_Z C nm ds v (fun q => xB G ≤ q) s (xH0 G)) (hw : ∀ s : State, xK G s → va_Nw (.fieldLinkNest M.1.cls i C nm ds host) s) (kk : xV G l M d mc ms k n (pc + 3) L (v :: st) h Q) : xV G l M d mc ms k n pc L st h Q := by
  intro p e s m args below meth c C9 H locs ls hW hlo hL
  obtain ⟨cf, kf, fi, f, a, cell, h1, h2, h3, h4, h5, h6, h7, h8⟩ := hz s C9.2.2.2.2.2.2.2.1
  exact va_WgetsN C9.1 C9.2.1 C9.2.2.2.2.1 (va_Nw.use rfl (hw s C9.2.2.2.2.2.2.2.1)) h1 h2 h3 h4 (by rw [hW.2.1 a (Nat.not_le.mp h8)]; exact h5) (fun e => by rw [e] at h6; cases h6) h7 rfl hd (kk p e s m args below meth c C9 H locs ls hW hlo hL)
theorem x_gets {C nm ds : String} {v : Value} (hd : decode M.2.1 pc = .ok (.getstatic i, 3)) (hz : ∀ s : State, xK G s → va_Z C nm ds v (fun q => xB G ≤ q) s (xH0 G)) (hw : Cond.fieldLink M.1.cls i C nm ds ∈ M.2.2.2.2) (kk : xV G l M d mc ms k n (pc + 3) L (v :: st) h Q) : xV G l M d mc ms k n pc L st h Q := by
  intro p e s m args below meth c C9 H locs ls hW hlo hL
  obtain ⟨cf, kf, fi, f, a, cell, h1, h2, h3, h4, h5, h6, h7, h8⟩ := hz s C9.2.2.2.2.2.2.2.1
  exact W.gets C9.1 C9.2.1 C9.2.2.2.2.1 (C9.2.2.2.2.2.1 _ hw) h1 h2 h3 h4 (by rw [hW.2.1 a (Nat.not_le.mp h8)]; exact h5) (fun e => by rw [e] at h6; cases h6) h7 rfl hd (kk p e s m args below meth c C9 H locs ls hW hlo hL)
/-- a static row: its length, its places -/
theorem x_tlen {t N : Nat} {ty : FieldType} {f : Nat → Value} {v : Int32} (hd : decode M.2.1 pc = .ok (.arraylength, 1)) (ht : ∀ s : State, xK G s → va_T ty t N f (fun q => xB G ≤ q) s (xH0 G)) (hv : Int32.ofNat N = v) (kk : xV G l M d mc ms k n (pc + 1) L (.int v :: st) h Q) : xV G l M d mc ms k n pc L (.ref t :: st) h Q := by
  intro p e s m args below meth c C9 H locs ls hW hlo hL
  obtain ⟨cell, h1, h2, h3, h4, h5, h6, h7⟩ := ht s C9.2.2.2.2.2.2.2.1
  exact W.alen (n := v) C9.1 C9.2.1 (by rw [hW.2.1 t (Nat.not_le.mp h7)]; exact h1) h2 (h5.trans hv) rfl rfl hd (kk p e s m args below meth c C9 H locs ls hW hlo hL)
theorem x_tld {t N : Nat} {f : Nat → Int32} {j : Int32} (hd : decode M.2.1 pc = .ok (.iaload, 1)) (ht : ∀ s : State, xK G s → va_T .int t N (fun j => .int (f j)) (fun q => xB G ≤ q) s (xH0 G)) (hin : vp_in j N) (kk : xV G l M d mc ms k n (pc + 1) L (.int (f j.toNatClampNeg) :: st) h Q) : xV G l M d mc ms k n pc L (.int j :: .ref t :: st) h Q := by
  intro p e s m args below meth c C9 H locs ls hW hlo hL
  obtain ⟨cell, h1, h2, h3, h4, h5, h6, h7⟩ := ht s C9.2.2.2.2.2.2.2.1
  have hlt : j.toNatClampNeg < N := Nat.not_le.mp fun q => hin (Or.inr q)
  have hin' : ¬ (j < 0 ∨ cell.slots.size ≤ j.toNatClampNeg) := by
    intro q
    rcases q with q | q
    · exact hin (Or.inl q)
    · omega
  exact W.iald (v := .int (f j.toNatClampNeg)) C9.1 C9.2.1 (by rw [hW.2.1 t (Nat.not_le.mp h7)]; exact h1) h2 h3 hin' (h6 _ hlt) rfl rfl hd (kk p e s m args below meth c C9 H locs ls hW hlo hL)
-- what is made
theorem x_new {ci N : Nat} {C : String} {T : u_T} {fs : List Value} {ty : Nat → FieldType} (hd : decode M.2.1 pc = .ok (.new i, 3)) (hc : vwCl[ci]? = some (C, T, N)) (hw1 : Cond.classLink M.1.cls i C ∈ M.2.2.2.2) (hw2 : Cond.instantiable C N ∈ M.2.2.2.2) (hw3 : Cond.initialized C ∈ M.2.2.2.2) (hty : ∀ k, k < N → parseFieldDescriptor (T k).2.2.1 = some (ty k)) (hfs : ∀ j, j < N → defaultValue (ty j) = vp_V fs j) (hr1 : k + 1 ≤ mc) (hr2 : n + N ≤ ms)
    (kk : ∀ a : Nat, h a = none → xB G ≤ a → xV G l M d mc ms (k + 1) (n + N) (pc + 3) L (.ref a :: st) (xup h a (.inr (ci, fs))) Q) : xV G l M d mc ms k n pc L st h Q := by
  intro p e s m args below meth c C9 H locs ls hW hlo hL
  have hK := C9.2.2.2.2.2.2.2.1.1
  have hts := C9.2.2.2.2.2.1
  have hKn := hK.1 ci _ hc
  refine W.newcK C9.1 C9.2.1 C9.2.2.2.2.1 (hts _ hw1) (hts _ hw2) (hts _ hw3) rfl hd hr1 hr2 hKn.2.1 rfl fun H1 kC hkC e1 z1 o1 => ?_
  exact kk H.size hW.fresh hW.1 p e s m args below meth c C9 H1 locs ls (hW.add z1 o1 ⟨_, hc, (u_born ty (xts C9 hc) (fun _ z => z) hKn hkC e1 hty).to hfs⟩) hlo hL
theorem x_newI {z : Int32} {N : Nat} (hd : decode M.2.1 pc = .ok (.newarray .int, 2)) (hw : Cond.arrayClass .int ∈ M.2.2.2.2) (hz : ¬ z < 0) (hN : z.toNatClampNeg = N) (hNb : N ≤ 100000) (hr1 : k + 1 ≤ mc) (hr2 : n + N ≤ ms)
    (kk : ∀ a : Nat, h a = none → xB G ≤ a → xV G l M d mc ms (k + 1) (n + N) (pc + 2) L (.ref a :: st) (xup h a (xRi G N (fun _ => 0))) Q) : xV G l M d mc ms k n pc L (.int z :: st) h Q := by
  intro p e s m args below meth c C9 H locs ls hW hlo hL
  have hts := C9.2.2.2.2.2.1
  refine va_newaK (atype := .int) C9.1 C9.2.1 (hts _ hw) rfl hd rfl hz hN (by show N * 4 ≤ 536870912; omega) hr1 hr2 rfl fun H1 cA e1 z1 o1 hAr hNm => ?_
  have hcA : cA = xI G := Option.some.inj (hNm.symm.trans C9.2.2.2.2.2.2.2.1.2.2.2.2.1)
  subst hcA
  exact kk H.size hW.fresh hW.1 p e s m args below meth c C9 H1 locs ls (hW.add z1 o1 e1) hlo hL
theorem x_newZ {z : Int32} {N : Nat} (hd : decode M.2.1 pc = .ok (.newarray .boolean, 2)) (hw : Cond.arrayClass .boolean ∈ M.2.2.2.2) (hz : ¬ z < 0) (hN : z.toNatClampNeg = N) (hNb : N ≤ 100000) (hr1 : k + 1 ≤ mc) (hr2 : n + N ≤ ms)
    (kk : ∀ a : Nat, h a = none → xB G ≤ a → xV G l M d mc ms (k + 1) (n + N) (pc + 2) L (.ref a :: st) (xup h a (xRz G N (fun _ => 0))) Q) : xV G l M d mc ms k n pc L (.int z :: st) h Q := by
  intro p e s m args below meth c C9 H locs ls hW hlo hL
  have hts := C9.2.2.2.2.2.1
  refine va_newaK (atype := .boolean) C9.1 C9.2.1 (hts _ hw) rfl hd rfl hz hN (by show N * 1 ≤ 536870912; omega) hr1 hr2 rfl fun H1 cA e1 z1 o1 hAr hNm => ?_
  have hcA : cA = xZ G := Option.some.inj (hNm.symm.trans C9.2.2.2.2.2.2.2.1.2.2.2.2.2.1)
  subst hcA
  exact kk H.size hW.fresh hW.1 p e s m args below meth c C9 H1 locs ls (hW.add z1 o1 e1) hlo hL
end XN
