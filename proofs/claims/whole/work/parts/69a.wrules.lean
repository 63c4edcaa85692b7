/-! THE CALCULUS over states of which P holds (the law: its script is an int[]) -/
def xW (P : State → Prop) (G : xG) (l : Launch) (M : xM) (d mc ms k n pc : Nat) (L st : List Value) (h : xH) (Q : Option Value → xH → Prop) : Prop :=
  ∀ (p : Program) (e : Env) (s : State) (m : MethodId) (args : Array Value) (below : List Frame) (meth : Method) (c : Code), P s → xC G M p s m args meth c → ∀ (H : Heap) (locs : List Loc) (ls : Array Slot), xWd G h H → (∀ q ∈ locs, xB G ≤ q.base) → xLs ls M.2.2.1 L →
    W p l e (xR d mc ms) s m args below meth c H locs k n (MQ below (xQ G Q) args s mc ms (fun q => xB G ≤ q)) (F0 m pc ls st)
section XR9
variable {P : State → Prop} {G : xG} {l : Launch} {M : xM} {d mc ms k n pc : Nat} {L st : List Value} {h : xH} {Q : Option Value → xH → Prop}
theorem w_aload_n {i : Fin 4} {x : Nat} (hd : decode M.2.1 pc = .ok (.aload_n i, 1)) (hl : L[(i : Nat)]? = some (.ref x)) (kk : xW P G l M d mc ms k n (pc + 1) L (.ref x :: st) h Q) : xW P G l M d mc ms k n pc L st h Q :=
  fun p e s m args below meth c hP C H locs ls hW hlo hL => lv_aload_n C.1 C.2.1 hd rfl (hL.2.2 _ _ hl (fun q => by cases q)) (kk p e s m args below meth c hP C H locs ls hW hlo hL)
theorem w_iload_n {i : Fin 4} {x : Int32} (hd : decode M.2.1 pc = .ok (.iload_n i, 1)) (hl : L[(i : Nat)]? = some (.int x)) (kk : xW P G l M d mc ms k n (pc + 1) L (.int x :: st) h Q) : xW P G l M d mc ms k n pc L st h Q :=
  fun p e s m args below meth c hP C H locs ls hW hlo hL => lv_iload_n C.1 C.2.1 hd rfl (hL.2.2 _ _ hl (fun q => by cases q)) (kk p e s m args below meth c hP C H locs ls hW hlo hL)
theorem w_iconst {z : Int} {v : Int32} (hd : decode M.2.1 pc = .ok (.iconst z, 1)) (hv : Int32.ofInt z = v) (kk : xW P G l M d mc ms k n (pc + 1) L (.int v :: st) h Q) : xW P G l M d mc ms k n pc L st h Q :=
  fun p e s m args below meth c hP C H locs ls hW hlo hL => lv_iconst C.1 C.2.1 hd hv (kk p e s m args below meth c hP C H locs ls hW hlo hL)
theorem w_bipush {z : Int} {v : Int32} (hd : decode M.2.1 pc = .ok (.bipush z, 2)) (hv : (Int8.ofInt z).toInt32 = v) (kk : xW P G l M d mc ms k n (pc + 2) L (.int v :: st) h Q) : xW P G l M d mc ms k n pc L st h Q :=
  fun p e s m args below meth c hP C H locs ls hW hlo hL => lv_bipush C.1 C.2.1 hd hv (kk p e s m args below meth c hP C H locs ls hW hlo hL)
theorem w_iadd {x y : Int32} (hd : decode M.2.1 pc = .ok (.iadd, 1)) (kk : xW P G l M d mc ms k n (pc + 1) L (.int (x + y) :: st) h Q) : xW P G l M d mc ms k n pc L (.int y :: .int x :: st) h Q :=
  fun p e s m args below meth c hP C H locs ls hW hlo hL => lv_iadd C.1 C.2.1 hd (kk p e s m args below meth c hP C H locs ls hW hlo hL)
theorem w_isub {x y : Int32} (hd : decode M.2.1 pc = .ok (.isub, 1)) (kk : xW P G l M d mc ms k n (pc + 1) L (.int (x - y) :: st) h Q) : xW P G l M d mc ms k n pc L (.int y :: .int x :: st) h Q :=
  fun p e s m args below meth c hP C H locs ls hW hlo hL => lv_isub C.1 C.2.1 hd (kk p e s m args below meth c hP C H locs ls hW hlo hL)
theorem w_iand {x y : Int32} (hd : decode M.2.1 pc = .ok (.iand, 1)) (kk : xW P G l M d mc ms k n (pc + 1) L (.int (x &&& y) :: st) h Q) : xW P G l M d mc ms k n pc L (.int y :: .int x :: st) h Q :=
  fun p e s m args below meth c hP C H locs ls hW hlo hL => lv_iand C.1 C.2.1 hd (kk p e s m args below meth c hP C H locs ls hW hlo hL)
theorem w_lcmp {x y : Int64} (hd : decode M.2.1 pc = .ok (.lcmp, 1)) (kk : xW P G l M d mc ms k n (pc + 1) L (.int (lg_cmp x y) :: st) h Q) : xW P G l M d mc ms k n pc L (.long y :: .long x :: st) h Q :=
  fun p e s m args below meth c hP C H locs ls hW hlo hL => W.lcmp C.1 C.2.1 hd (kk p e s m args below meth c hP C H locs ls hW hlo hL)
theorem w_if_eq {x : Int32} {off : Int} {tgt : Nat} (hd : decode M.2.1 pc = .ok (.ifCond .eq off, 3)) (ht : (pc : Int) + off = (tgt : Int)) (kt : x = 0 → xW P G l M d mc ms k n tgt L st h Q) (kf : ¬ x = 0 → xW P G l M d mc ms k n (pc + 3) L st h Q) : xW P G l M d mc ms k n pc L (.int x :: st) h Q :=
  fun p e s m args below meth c hP C H locs ls hW hlo hL => lv_if_eq C.1 C.2.1 hd ht (fun q => kt q p e s m args below meth c hP C H locs ls hW hlo hL) (fun q => kf q p e s m args below meth c hP C H locs ls hW hlo hL)
theorem w_icmp_eq {x y : Int32} {off : Int} {tgt : Nat} (hd : decode M.2.1 pc = .ok (.if_icmp .eq off, 3)) (ht : (pc : Int) + off = (tgt : Int)) (kt : x = y → xW P G l M d mc ms k n tgt L st h Q) (kf : ¬ x = y → xW P G l M d mc ms k n (pc + 3) L st h Q) : xW P G l M d mc ms k n pc L (.int y :: .int x :: st) h Q :=
  fun p e s m args below meth c hP C H locs ls hW hlo hL => lv_icmp_eq C.1 C.2.1 hd ht (fun q => kt q p e s m args below meth c hP C H locs ls hW hlo hL) (fun q => kf q p e s m args below meth c hP C H locs ls hW hlo hL)
theorem w_icmp_gt {x y : Int32} {off : Int} {tgt : Nat} (hd : decode M.2.1 pc = .ok (.if_icmp .gt off, 3)) (ht : (pc : Int) + off = (tgt : Int)) (kt : y < x → xW P G l M d mc ms k n tgt L st h Q) (kf : ¬ y < x → xW P G l M d mc ms k n (pc + 3) L st h Q) : xW P G l M d mc ms k n pc L (.int y :: .int x :: st) h Q :=
  fun p e s m args below meth c hP C H locs ls hW hlo hL => lv_icmp_gt C.1 C.2.1 hd ht (fun q => kt q p e s m args below meth c hP C H locs ls hW hlo hL) (fun q => kf q p e s m args below meth c hP C H locs ls hW hlo hL)
theorem w_goto {off : Int} {tgt : Nat} (hd : decode M.2.1 pc = .ok (.goto off, 3)) (ht : (pc : Int) + off = (tgt : Int)) (kk : xW P G l M d mc ms k n tgt L st h Q) : xW P G l M d mc ms k n pc L st h Q :=
  fun p e s m args below meth c hP C H locs ls hW hlo hL => lv_goto C.1 C.2.1 hd ht (kk p e s m args below meth c hP C H locs ls hW hlo hL)
theorem w_iinc {i : Nat} {z : Int} {x v : Int32} (hd : decode M.2.1 pc = .ok (.iinc i z, 3)) (hl : L[i]? = some (.int x)) (hv : Int32.ofInt z = v) (hn : i < M.2.2.1) (hnl : xnl i L = true) (kk : xW P G l M d mc ms k n (pc + 3) (L.set i (.int (x + v))) st h Q) : xW P G l M d mc ms k n pc L st h Q := by
  intro p e s m args below meth c hP C H locs ls hW hlo hL
  have hm : (i, Value.int x) ∈ xas 0 L := by simpa using xas_of (i := 0) hl (fun q => by cases q)
  obtain ⟨j, hj⟩ := List.getElem?_of_mem hm
  exact lv_iinc (v := x + v) C.1 C.2.1 hd hL.has hj (by rw [hv]) hn rfl (fun ls' hl' => kk p e s m args below meth c hP C H locs ls' hW hlo (xLs.set1 hnl hl'))
theorem w_istore_n {i : Fin 4} {x : Int32} (hd : decode M.2.1 pc = .ok (.istore_n i, 1)) (hn : (i : Nat) < M.2.2.1) (hnl : xnl i L = true) (kk : xW P G l M d mc ms k n (pc + 1) (L.set i (.int x)) st h Q) : xW P G l M d mc ms k n pc L (.int x :: st) h Q :=
  fun p e s m args below meth c hP C H locs ls hW hlo hL => lv_istore_n C.1 C.2.1 hd rfl hL.has hn rfl (fun ls' hl' => kk p e s m args below meth c hP C H locs ls' hW hlo (xLs.set1 hnl hl'))
theorem w_astore_n {i : Fin 4} {x : Nat} (hd : decode M.2.1 pc = .ok (.astore_n i, 1)) (hn : (i : Nat) < M.2.2.1) (hnl : xnl i L = true) (kk : xW P G l M d mc ms k n (pc + 1) (L.set i (.ref x)) st h Q) : xW P G l M d mc ms k n pc L (.ref x :: st) h Q :=
  fun p e s m args below meth c hP C H locs ls hW hlo hL => lv_astore_n C.1 C.2.1 hd rfl hL.has hn rfl (fun ls' hl' => kk p e s m args below meth c hP C H locs ls' hW hlo (xLs.set1 hnl hl'))
theorem w_dup {va : Value} (hd : decode M.2.1 pc = .ok (.dup, 1)) (ha : va.category = 1) (kk : xW P G l M d mc ms k n (pc + 1) L (va :: va :: st) h Q) : xW P G l M d mc ms k n pc L (va :: st) h Q :=
  fun p e s m args below meth c hP C H locs ls hW hlo hL => lv_dup C.1 C.2.1 hd ha (kk p e s m args below meth c hP C H locs ls hW hlo hL)
theorem w_tin {df lo hi : Int} {offs : Array Int} {len : Nat} {x : Int32} {off : Int} {tgt : Nat} (hd : decode M.2.1 pc = .ok (.tableswitch df lo hi offs, len)) (h1 : ¬ x.toInt < lo) (h2 : ¬ hi < x.toInt) (ho : offs[(x.toInt - lo).toNat]? = some off) (ht : (pc : Int) + off = (tgt : Int)) (kk : xW P G l M d mc ms k n tgt L st h Q) : xW P G l M d mc ms k n pc L (.int x :: st) h Q :=
  fun p e s m args below meth c hP C H locs ls hW hlo hL => lv_tableIn C.1 C.2.1 hd h1 h2 ho ht (kk p e s m args below meth c hP C H locs ls hW hlo hL)
theorem w_tout {df lo hi : Int} {offs : Array Int} {len : Nat} {x : Int32} {tgt : Nat} (hd : decode M.2.1 pc = .ok (.tableswitch df lo hi offs, len)) (hx : x.toInt < lo ∨ hi < x.toInt) (ht : (pc : Int) + df = (tgt : Int)) (kk : xW P G l M d mc ms k n tgt L st h Q) : xW P G l M d mc ms k n pc L (.int x :: st) h Q :=
  fun p e s m args below meth c hP C H locs ls hW hlo hL => lv_tableOut C.1 C.2.1 hd hx ht (kk p e s m args below meth c hP C H locs ls hW hlo hL)
theorem w_zret {v : Int32} {ty : FieldType} (hd : decode M.2.1 pc = .ok (.ireturn, 1)) (hr : M.2.2.2.1 = some ty) (hv : narrow ty (.int v) = .int v) (hQ : Q (some (.int v)) h) (hk : k ≤ mc := by exact Nat.le_refl _) (hn : n ≤ ms := by exact Nat.le_refl _) : xW P G l M d mc ms k n pc L [.int v] h Q := by
  intro p e s m args below meth c hP C H locs ls hW hlo hL
  refine W.widen hk hn ?_
  exact W.zret (v := v) C.1 C.2.1 (C.2.2.1.trans hr) hv (fun t ht hw => ⟨_, h, rfl, hQ, by rw [ht]; exact hW⟩) hlo hd C.2.2.2.2.2.2.1
theorem w_loc {L' : List Value} (e : L = L') (kk : xW P G l M d mc ms k n pc L' st h Q) : xW P G l M d mc ms k n pc L st h Q := e ▸ kk
theorem xW.wd {k' n' : Nat} (hk : k ≤ k') (hn : n ≤ n') (hv : xW P G l M d mc ms k' n' pc L st h Q) : xW P G l M d mc ms k n pc L st h Q :=
  fun p e s m args below meth c hP C H locs ls hW hlo hL => W.widen hk hn (hv p e s m args below meth c hP C H locs ls hW hlo hL)
end XR9
section XC9
variable {P : State → Prop} {G : xG} {l : Launch} {M M' : xM} {d d' mc ms mc' ms' k n pc i nn : Nat} {L st0 As rest : List Value} {h : xH} {Q : Option Value → xH → Prop}
theorem wgo {p : Program} {e : Env} {s : State} {m : MethodId} {args : Array Value} {below : List Frame} {meth : Method} {c : Code} {H : Heap} {locs : List Loc} {ls : Array Slot} {a : Array Value} (hP : P s) (C : xC G M p s m args meth c) (hlo : ∀ q ∈ locs, xB G ≤ q.base) (hL : xLs ls M.2.2.1 L)
    (hr : va_Run p l e (xR d mc ms) s m args below meth c H locs k n mc' ms' (F0 m pc ls st0) rest (xQ G (fun r h' => xW P G l M d mc ms (k + mc') (n + ms') (pc + 3) L (r.toList ++ rest) h' Q) a) (fun q => xB G ≤ q)) : W p l e (xR d mc ms) s m args below meth c H locs k n (MQ below (xQ G Q) args s mc ms (fun q => xB G ≤ q)) (F0 m pc ls st0) := by
  intro T hT X
  obtain ⟨v, st₀, t, T', L', h0, X', hL', e1, e2, ⟨r, h', hv, hq, hw'⟩, st⟩ := hr T hT X
  cases hv
  obtain ⟨t2, a1, b1⟩ := hq p e s m args below meth c hP C T'.heap (locs ++ L') ls (by rw [e1]; exact hw') (fun q hq => by
    rcases List.mem_append.mp hq with z | z
    · exact hlo q z
    · exact hL' q z) hL T' rfl X'
  exact ⟨t2, st t2 a1, b1⟩
theorem w_callV {ci b N : Nat} {T : u_T} {fs : List Value} (hd : decode M.2.1 pc = .ok (.invokevirtual i, 3)) (hg : GoodIn M.2.2.2.2 (wsV M.1.cls i M'.1.cls M'.1 M'.2.2.2.2)) (hm : xOk M' nn) (hn : As.length = nn) (hst : st0 = As.reverse ++ .ref b :: rest) (hb : h b = some (.inr (ci, fs))) (hc : vwCl[ci]? = some (M'.1.cls, T, N)) (hlen : (xfl (.ref b :: As)).length ≤ M'.2.2.1) (hcat : (rest.map fun v => v.category).sum ≤ 8) (hdd : d' + 1 ≤ d) (hr1 : k + mc' ≤ mc) (hr2 : n + ms' ≤ ms)
    (body : xV G l M' d' mc' ms' 0 0 0 (xen (.ref b :: As) M'.2.2.1) [] h (fun r h' => xW P G l M d mc ms (k + mc') (n + ms') (pc + 3) L (r.toList ++ rest) h' Q)) : xW P G l M d mc ms k n pc L st0 h Q := by
  intro p e s m args below meth c hP C H locs ls hW hlo hL
  have hK := C.2.2.2.2.2.2.2.1
  obtain ⟨hm1, hm2, hm3, ws', hm4⟩ := id hm
  refine wgo hP C hlo hL (va_runV (As := As) (b := b) ⟨C.1, C.2.1, C.2.2.2.1, C.2.2.2.2.1, C.2.2.2.2.2.1⟩ (xMet hm hlen body) (cwV nn C.2.2.2.2.2.1 hg hm4 rfl rfl ⟨rfl, hm2⟩ (xroom hdd hm3)) ⟨xblind, va_recv hK.1 (hW.p1 hb) hc (q0 := 0) rfl, fun U hU hWm => ⟨rfl, by rw [hU]; exact hW, hK.to hWm⟩⟩ rfl hn hL.1 hst (lv_room hcat) hd ⟨hr1, hr2⟩)
theorem w_callI {b : Nat} (hd : decode M.2.1 pc = .ok (.invokespecial i, 3)) (hg : GoodIn M.2.2.2.2 M'.2.2.2.2) (hw1 : Cond.initialized M'.1.cls ∈ M.2.2.2.2) (hw2 : Cond.methodLink M.1.cls i M'.1 ∈ M.2.2.2.2) (hw3 : Cond.instanceMethod M'.1 ∈ M.2.2.2.2) (hnm : M'.1.name = "<init>") (hret : M'.2.2.2.1 = none) (hm : xOk M' nn) (hn : As.length = nn) (hst : st0 = As.reverse ++ .ref b :: rest) (hlen : (xfl (.ref b :: As)).length ≤ M'.2.2.1) (hcat : (rest.map fun v => v.category).sum ≤ 8) (hdd : d' + 1 ≤ d) (hr1 : k + mc' ≤ mc) (hr2 : n + ms' ≤ ms)
    (body : xV G l M' d' mc' ms' 0 0 0 (xen (.ref b :: As) M'.2.2.1) [] h (fun r h' => xW P G l M d mc ms (k + mc') (n + ms') (pc + 3) L (r.toList ++ rest) h' Q)) : xW P G l M d mc ms k n pc L st0 h Q := by
  intro p e s m args below meth c hP C H locs ls hW hlo hL
  have hK := C.2.2.2.2.2.2.2.1
  have hts := C.2.2.2.2.2.1
  obtain ⟨hm1, hm2, hm3, ws', hm4⟩ := id hm
  rw [hret] at hm4
  refine wgo hP C hlo hL (va_runI (As := As) (b := b) ⟨C.1, C.2.1, C.2.2.2.1, C.2.2.2.2.1, hts⟩ (xMet hm hlen body) (cwI nn hts hg hm4 rfl rfl (hts _ hw1) (hts _ hw2) (hts _ hw3) hnm hm2 (xroom hdd hm3)) ⟨xblind, fun U hU hWm => ⟨rfl, by rw [hU]; exact hW, hK.to hWm⟩⟩ rfl hn hL.1 hst (lv_room hcat) hd ⟨hr1, hr2⟩)
end XC9
section XN9
variable {P : State → Prop} {G : xG} {l : Launch} {M : xM} {d mc ms k n pc i : Nat} {L st : List Value} {h : xH} {Q : Option Value → xH → Prop}
theorem w_tlen {t N : Nat} {ty : FieldType} {f : Nat → Value} {v : Int32} (hd : decode M.2.1 pc = .ok (.arraylength, 1)) (ht : ∀ s : State, P s → xK G s → va_T ty t N f (fun q => xB G ≤ q) s (xH0 G)) (hv : Int32.ofNat N = v) (kk : xW P G l M d mc ms k n (pc + 1) L (.int v :: st) h Q) : xW P G l M d mc ms k n pc L (.ref t :: st) h Q := by
  intro p e s m args below meth c hP C9 H locs ls hW hlo hL
  obtain ⟨cell, h1, h2, h3, h4, h5, h6, h7⟩ := ht s hP C9.2.2.2.2.2.2.2.1
  exact W.alen (n := v) C9.1 C9.2.1 (by rw [hW.2.1 t (Nat.not_le.mp h7)]; exact h1) h2 (h5.trans hv) rfl rfl hd (kk p e s m args below meth c hP C9 H locs ls hW hlo hL)
theorem w_tld {t N : Nat} {f : Nat → Int32} {j : Int32} (hd : decode M.2.1 pc = .ok (.iaload, 1)) (ht : ∀ s : State, P s → xK G s → va_T .int t N (fun j => .int (f j)) (fun q => xB G ≤ q) s (xH0 G)) (hin : vp_in j N) (kk : xW P G l M d mc ms k n (pc + 1) L (.int (f j.toNatClampNeg) :: st) h Q) : xW P G l M d mc ms k n pc L (.int j :: .ref t :: st) h Q := by
  intro p e s m args below meth c hP C9 H locs ls hW hlo hL
  obtain ⟨cell, h1, h2, h3, h4, h5, h6, h7⟩ := ht s hP C9.2.2.2.2.2.2.2.1
  have hlt : j.toNatClampNeg < N := Nat.not_le.mp fun q => hin (Or.inr q)
  have hin' : ¬ (j < 0 ∨ cell.slots.size ≤ j.toNatClampNeg) := by
    intro q
    rcases q with q | q
    · exact hin (Or.inl q)
    · omega
  exact W.iald (v := .int (f j.toNatClampNeg)) C9.1 C9.2.1 (by rw [hW.2.1 t (Nat.not_le.mp h7)]; exact h1) h2 h3 hin' (h6 _ hlt) rfl rfl hd (kk p e s m args below meth c hP C9 H locs ls hW hlo hL)
theorem w_newA {ci N : Nat} {C : String} {T : u_T} {fs : List Value} {ty : Nat → FieldType} (hd : decode M.2.1 pc = .ok (.new i, 3)) (hc : vwCl[ci]? = some (C, T, N)) (hw1 : Cond.classLink M.1.cls i C ∈ M.2.2.2.2) (hw2 : Cond.instantiable C N ∈ M.2.2.2.2) (hw3 : Cond.initialized C ∈ M.2.2.2.2) (hty : ∀ k, k < N → parseFieldDescriptor (T k).2.2.1 = some (ty k)) (hfs : ∀ j, j < N → defaultValue (ty j) = vp_V fs j) (hr1 : k + 1 ≤ mc) (hr2 : n + N ≤ ms)
    (kk : ∀ a : Nat, xTop h a → xB G ≤ a → xW P G l M d mc ms (k + 1) (n + N) (pc + 3) L (.ref a :: st) (xup h a (.inr (ci, fs))) Q) : xW P G l M d mc ms k n pc L st h Q := by
  intro p e s m args below meth c hP C9 H locs ls hW hlo hL
  have hK := C9.2.2.2.2.2.2.2.1.1
  have hts := C9.2.2.2.2.2.1
  have hKn := hK.1 ci _ hc
  refine W.newcK C9.1 C9.2.1 C9.2.2.2.2.1 (hts _ hw1) (hts _ hw2) (hts _ hw3) rfl hd hr1 hr2 hKn.2.1 rfl fun H1 kC hkC e1 z1 o1 => ?_
  exact kk H.size hW.top hW.1 p e s m args below meth c hP C9 H1 locs ls (hW.add z1 o1 ⟨_, hc, (u_born ty (xts C9 hc) (fun _ z => z) hKn hkC e1 hty).to hfs⟩) hlo hL
end XN9
