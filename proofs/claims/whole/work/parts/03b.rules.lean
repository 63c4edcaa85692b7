section XR
variable {G : xG} {l : Launch} {M : xM} {d mc ms k n pc : Nat} {L st : List Value} {h : xH} {Q : Option Value → xH → Prop}

theorem x_iconst {z : Int} {v : Int32} (hd : decode M.2.1 pc = .ok (.iconst z, 1)) (hv : Int32.ofInt z = v) (kk : xV G l M d mc ms k n (pc + 1) L (.int v :: st) h Q) : xV G l M d mc ms k n pc L st h Q :=
  fun p e s m args below meth c C H locs ls hW hlo hL => lv_iconst C.1 C.2.1 hd hv (kk p e s m args below meth c C H locs ls hW hlo hL)
theorem x_bipush {z : Int} {v : Int32} (hd : decode M.2.1 pc = .ok (.bipush z, 2)) (hv : (Int8.ofInt z).toInt32 = v) (kk : xV G l M d mc ms k n (pc + 2) L (.int v :: st) h Q) : xV G l M d mc ms k n pc L st h Q :=
  fun p e s m args below meth c C H locs ls hW hlo hL => lv_bipush C.1 C.2.1 hd hv (kk p e s m args below meth c C H locs ls hW hlo hL)
theorem x_sipush {z : Int} {v : Int32} (hd : decode M.2.1 pc = .ok (.sipush z, 3)) (hv : (Int16.ofInt z).toInt32 = v) (kk : xV G l M d mc ms k n (pc + 3) L (.int v :: st) h Q) : xV G l M d mc ms k n pc L st h Q :=
  fun p e s m args below meth c C H locs ls hW hlo hL => lv_sipush C.1 C.2.1 hd hv (kk p e s m args below meth c C H locs ls hW hlo hL)
theorem x_lconst {z : Fin 2} {v : Int64} (hd : decode M.2.1 pc = .ok (.lconst z, 1)) (hv : Int64.ofNat (z : Nat) = v) (kk : xV G l M d mc ms k n (pc + 1) L (.long v :: st) h Q) : xV G l M d mc ms k n pc L st h Q :=
  fun p e s m args below meth c C H locs ls hW hlo hL => lv_lconst C.1 C.2.1 hd hv (kk p e s m args below meth c C H locs ls hW hlo hL)
theorem x_iload_n {i : Fin 4} {x : Int32} (hd : decode M.2.1 pc = .ok (.iload_n i, 1)) (hl : L[(i : Nat)]? = some (.int x)) (kk : xV G l M d mc ms k n (pc + 1) L (.int x :: st) h Q) : xV G l M d mc ms k n pc L st h Q :=
  fun p e s m args below meth c C H locs ls hW hlo hL => lv_iload_n C.1 C.2.1 hd rfl (hL.2.2 _ _ hl (fun q => by cases q)) (kk p e s m args below meth c C H locs ls hW hlo hL)
theorem x_iload {i : Nat} {x : Int32} (hd : decode M.2.1 pc = .ok (.iload i, 2)) (hl : L[i]? = some (.int x)) (kk : xV G l M d mc ms k n (pc + 2) L (.int x :: st) h Q) : xV G l M d mc ms k n pc L st h Q :=
  fun p e s m args below meth c C H locs ls hW hlo hL => lv_iload C.1 C.2.1 hd (hL.2.2 _ _ hl (fun q => by cases q)) (kk p e s m args below meth c C H locs ls hW hlo hL)
theorem x_lload_n {i : Fin 4} {x : Int64} (hd : decode M.2.1 pc = .ok (.lload_n i, 1)) (hl : L[(i : Nat)]? = some (.long x)) (kk : xV G l M d mc ms k n (pc + 1) L (.long x :: st) h Q) : xV G l M d mc ms k n pc L st h Q :=
  fun p e s m args below meth c C H locs ls hW hlo hL => lv_lload_n C.1 C.2.1 hd rfl (hL.2.2 _ _ hl (fun q => by cases q)) (kk p e s m args below meth c C H locs ls hW hlo hL)
theorem x_lload {i : Nat} {x : Int64} (hd : decode M.2.1 pc = .ok (.lload i, 2)) (hl : L[i]? = some (.long x)) (kk : xV G l M d mc ms k n (pc + 2) L (.long x :: st) h Q) : xV G l M d mc ms k n pc L st h Q :=
  fun p e s m args below meth c C H locs ls hW hlo hL => lv_lload C.1 C.2.1 hd (hL.2.2 _ _ hl (fun q => by cases q)) (kk p e s m args below meth c C H locs ls hW hlo hL)
theorem x_aload_n {i : Fin 4} {x : Nat} (hd : decode M.2.1 pc = .ok (.aload_n i, 1)) (hl : L[(i : Nat)]? = some (.ref x)) (kk : xV G l M d mc ms k n (pc + 1) L (.ref x :: st) h Q) : xV G l M d mc ms k n pc L st h Q :=
  fun p e s m args below meth c C H locs ls hW hlo hL => lv_aload_n C.1 C.2.1 hd rfl (hL.2.2 _ _ hl (fun q => by cases q)) (kk p e s m args below meth c C H locs ls hW hlo hL)
theorem x_aload {i : Nat} {x : Nat} (hd : decode M.2.1 pc = .ok (.aload i, 2)) (hl : L[i]? = some (.ref x)) (kk : xV G l M d mc ms k n (pc + 2) L (.ref x :: st) h Q) : xV G l M d mc ms k n pc L st h Q :=
  fun p e s m args below meth c C H locs ls hW hlo hL => lv_aload C.1 C.2.1 hd (hL.2.2 _ _ hl (fun q => by cases q)) (kk p e s m args below meth c C H locs ls hW hlo hL)
theorem x_aload_nN {i : Fin 4} (hd : decode M.2.1 pc = .ok (.aload_n i, 1)) (hl : L[(i : Nat)]? = some .null) (kk : xV G l M d mc ms k n (pc + 1) L (.null :: st) h Q) : xV G l M d mc ms k n pc L st h Q :=
  fun p e s m args below meth c C H locs ls hW hlo hL => lv_aload_nN C.1 C.2.1 hd rfl (hL.2.2 _ _ hl (fun q => by cases q)) (kk p e s m args below meth c C H locs ls hW hlo hL)
theorem x_aloadN {i : Nat} (hd : decode M.2.1 pc = .ok (.aload i, 2)) (hl : L[i]? = some .null) (kk : xV G l M d mc ms k n (pc + 2) L (.null :: st) h Q) : xV G l M d mc ms k n pc L st h Q :=
  fun p e s m args below meth c C H locs ls hW hlo hL => lv_aloadN C.1 C.2.1 hd (hL.2.2 _ _ hl (fun q => by cases q)) (kk p e s m args below meth c C H locs ls hW hlo hL)
theorem x_istore_n {i : Fin 4} {x : Int32} (hd : decode M.2.1 pc = .ok (.istore_n i, 1)) (hn : (i : Nat) < M.2.2.1) (hnl : xnl i L = true) (kk : xV G l M d mc ms k n (pc + 1) (L.set i (.int x)) st h Q) : xV G l M d mc ms k n pc L (.int x :: st) h Q :=
  fun p e s m args below meth c C H locs ls hW hlo hL => lv_istore_n C.1 C.2.1 hd rfl hL.has hn rfl (fun ls' hl' => kk p e s m args below meth c C H locs ls' hW hlo (xLs.set1 hnl hl'))
theorem x_istore {i : Nat} {x : Int32} (hd : decode M.2.1 pc = .ok (.istore i, 2)) (hn : i < M.2.2.1) (hnl : xnl i L = true) (kk : xV G l M d mc ms k n (pc + 2) (L.set i (.int x)) st h Q) : xV G l M d mc ms k n pc L (.int x :: st) h Q :=
  fun p e s m args below meth c C H locs ls hW hlo hL => lv_istore C.1 C.2.1 hd hL.has hn rfl (fun ls' hl' => kk p e s m args below meth c C H locs ls' hW hlo (xLs.set1 hnl hl'))
theorem x_astore_n {i : Fin 4} {x : Nat} (hd : decode M.2.1 pc = .ok (.astore_n i, 1)) (hn : (i : Nat) < M.2.2.1) (hnl : xnl i L = true) (kk : xV G l M d mc ms k n (pc + 1) (L.set i (.ref x)) st h Q) : xV G l M d mc ms k n pc L (.ref x :: st) h Q :=
  fun p e s m args below meth c C H locs ls hW hlo hL => lv_astore_n C.1 C.2.1 hd rfl hL.has hn rfl (fun ls' hl' => kk p e s m args below meth c C H locs ls' hW hlo (xLs.set1 hnl hl'))
theorem x_astore {i : Nat} {x : Nat} (hd : decode M.2.1 pc = .ok (.astore i, 2)) (hn : i < M.2.2.1) (hnl : xnl i L = true) (kk : xV G l M d mc ms k n (pc + 2) (L.set i (.ref x)) st h Q) : xV G l M d mc ms k n pc L (.ref x :: st) h Q :=
  fun p e s m args below meth c C H locs ls hW hlo hL => lv_astore C.1 C.2.1 hd hL.has hn rfl (fun ls' hl' => kk p e s m args below meth c C H locs ls' hW hlo (xLs.set1 hnl hl'))
theorem x_astore_nN {i : Fin 4} (hd : decode M.2.1 pc = .ok (.astore_n i, 1)) (hn : (i : Nat) < M.2.2.1) (hnl : xnl i L = true) (kk : xV G l M d mc ms k n (pc + 1) (L.set i (.null)) st h Q) : xV G l M d mc ms k n pc L (.null :: st) h Q :=
  fun p e s m args below meth c C H locs ls hW hlo hL => lv_astore_nN C.1 C.2.1 hd rfl hL.has hn rfl (fun ls' hl' => kk p e s m args below meth c C H locs ls' hW hlo (xLs.set1 hnl hl'))
theorem x_astoreN {i : Nat} (hd : decode M.2.1 pc = .ok (.astore i, 2)) (hn : i < M.2.2.1) (hnl : xnl i L = true) (kk : xV G l M d mc ms k n (pc + 2) (L.set i (.null)) st h Q) : xV G l M d mc ms k n pc L (.null :: st) h Q :=
  fun p e s m args below meth c C H locs ls hW hlo hL => lv_astoreN C.1 C.2.1 hd hL.has hn rfl (fun ls' hl' => kk p e s m args below meth c C H locs ls' hW hlo (xLs.set1 hnl hl'))
theorem x_lstore_n {i : Fin 4} {x : Int64} (hd : decode M.2.1 pc = .ok (.lstore_n i, 1)) (hn : (i : Nat) + 1 < M.2.2.1) (hnl : xnl i L = true) (kk : xV G l M d mc ms k n (pc + 1) ((L.set i (.long x)).set ((i : Nat) + 1) xU) st h Q) : xV G l M d mc ms k n pc L (.long x :: st) h Q :=
  fun p e s m args below meth c C H locs ls hW hlo hL => lv_lstore_n C.1 C.2.1 hd rfl hL.has hn rfl (fun ls' hl' => kk p e s m args below meth c C H locs ls' hW hlo (xLs.set2 hnl hl'))
theorem x_lstore {i : Nat} {x : Int64} (hd : decode M.2.1 pc = .ok (.lstore i, 2)) (hn : i + 1 < M.2.2.1) (hnl : xnl i L = true) (kk : xV G l M d mc ms k n (pc + 2) ((L.set i (.long x)).set (i + 1) xU) st h Q) : xV G l M d mc ms k n pc L (.long x :: st) h Q :=
  fun p e s m args below meth c C H locs ls hW hlo hL => lv_lstore C.1 C.2.1 hd hL.has hn rfl (fun ls' hl' => kk p e s m args below meth c C H locs ls' hW hlo (xLs.set2 hnl hl'))
theorem x_iinc {i : Nat} {z : Int} {x v : Int32} (hd : decode M.2.1 pc = .ok (.iinc i z, 3)) (hl : L[i]? = some (.int x)) (hv : Int32.ofInt z = v) (hn : i < M.2.2.1) (hnl : xnl i L = true) (kk : xV G l M d mc ms k n (pc + 3) (L.set i (.int (x + v))) st h Q) : xV G l M d mc ms k n pc L st h Q := by
  intro p e s m args below meth c C H locs ls hW hlo hL
  have hm : (i, Value.int x) ∈ xas 0 L := by simpa using xas_of (i := 0) hl (fun q => by cases q)
  obtain ⟨j, hj⟩ := List.getElem?_of_mem hm
  exact lv_iinc (v := x + v) C.1 C.2.1 hd hL.has hj (by rw [hv]) hn rfl (fun ls' hl' => kk p e s m args below meth c C H locs ls' hW hlo (xLs.set1 hnl hl'))
theorem x_iadd {x y : Int32} (hd : decode M.2.1 pc = .ok (.iadd, 1)) (kk : xV G l M d mc ms k n (pc + 1) L (.int (x + y) :: st) h Q) : xV G l M d mc ms k n pc L (.int y :: .int x :: st) h Q :=
  fun p e s m args below meth c C H locs ls hW hlo hL => lv_iadd C.1 C.2.1 hd (kk p e s m args below meth c C H locs ls hW hlo hL)
theorem x_isub {x y : Int32} (hd : decode M.2.1 pc = .ok (.isub, 1)) (kk : xV G l M d mc ms k n (pc + 1) L (.int (x - y) :: st) h Q) : xV G l M d mc ms k n pc L (.int y :: .int x :: st) h Q :=
  fun p e s m args below meth c C H locs ls hW hlo hL => lv_isub C.1 C.2.1 hd (kk p e s m args below meth c C H locs ls hW hlo hL)
theorem x_imul {x y : Int32} (hd : decode M.2.1 pc = .ok (.imul, 1)) (kk : xV G l M d mc ms k n (pc + 1) L (.int (x * y) :: st) h Q) : xV G l M d mc ms k n pc L (.int y :: .int x :: st) h Q :=
  fun p e s m args below meth c C H locs ls hW hlo hL => lv_imul C.1 C.2.1 hd (kk p e s m args below meth c C H locs ls hW hlo hL)
theorem x_iand {x y : Int32} (hd : decode M.2.1 pc = .ok (.iand, 1)) (kk : xV G l M d mc ms k n (pc + 1) L (.int (x &&& y) :: st) h Q) : xV G l M d mc ms k n pc L (.int y :: .int x :: st) h Q :=
  fun p e s m args below meth c C H locs ls hW hlo hL => lv_iand C.1 C.2.1 hd (kk p e s m args below meth c C H locs ls hW hlo hL)
theorem x_ior {x y : Int32} (hd : decode M.2.1 pc = .ok (.ior, 1)) (kk : xV G l M d mc ms k n (pc + 1) L (.int (x ||| y) :: st) h Q) : xV G l M d mc ms k n pc L (.int y :: .int x :: st) h Q :=
  fun p e s m args below meth c C H locs ls hW hlo hL => lv_ior C.1 C.2.1 hd (kk p e s m args below meth c C H locs ls hW hlo hL)
theorem x_ixor {x y : Int32} (hd : decode M.2.1 pc = .ok (.ixor, 1)) (kk : xV G l M d mc ms k n (pc + 1) L (.int (x ^^^ y) :: st) h Q) : xV G l M d mc ms k n pc L (.int y :: .int x :: st) h Q :=
  fun p e s m args below meth c C H locs ls hW hlo hL => lv_ixor C.1 C.2.1 hd (kk p e s m args below meth c C H locs ls hW hlo hL)
theorem x_ishl {x y : Int32} (hd : decode M.2.1 pc = .ok (.ishl, 1)) (kk : xV G l M d mc ms k n (pc + 1) L (.int (x <<< (y &&& 31)) :: st) h Q) : xV G l M d mc ms k n pc L (.int y :: .int x :: st) h Q :=
  fun p e s m args below meth c C H locs ls hW hlo hL => lv_ishl C.1 C.2.1 hd (kk p e s m args below meth c C H locs ls hW hlo hL)
theorem x_ishr {x y : Int32} (hd : decode M.2.1 pc = .ok (.ishr, 1)) (kk : xV G l M d mc ms k n (pc + 1) L (.int (x >>> (y &&& 31)) :: st) h Q) : xV G l M d mc ms k n pc L (.int y :: .int x :: st) h Q :=
  fun p e s m args below meth c C H locs ls hW hlo hL => lv_ishr C.1 C.2.1 hd (kk p e s m args below meth c C H locs ls hW hlo hL)
theorem x_iushr {x y v : Int32} (hd : decode M.2.1 pc = .ok (.iushr, 1)) (hv : (x.toUInt32 >>> (y.toUInt32 &&& Int32.toUInt32 31)).toInt32 = v) (kk : xV G l M d mc ms k n (pc + 1) L (.int v :: st) h Q) : xV G l M d mc ms k n pc L (.int y :: .int x :: st) h Q :=
  fun p e s m args below meth c C H locs ls hW hlo hL => lv_iushr C.1 C.2.1 hd hv (kk p e s m args below meth c C H locs ls hW hlo hL)
theorem x_idiv {x y : Int32} (hd : decode M.2.1 pc = .ok (.idiv, 1)) (hne : ¬ y = 0) (kk : xV G l M d mc ms k n (pc + 1) L (.int (x / y) :: st) h Q) : xV G l M d mc ms k n pc L (.int y :: .int x :: st) h Q :=
  fun p e s m args below meth c C H locs ls hW hlo hL => lv_idiv C.1 C.2.1 hd hne (kk p e s m args below meth c C H locs ls hW hlo hL)
theorem x_irem {x y : Int32} (hd : decode M.2.1 pc = .ok (.irem, 1)) (hne : ¬ y = 0) (kk : xV G l M d mc ms k n (pc + 1) L (.int (x - x / y * y) :: st) h Q) : xV G l M d mc ms k n pc L (.int y :: .int x :: st) h Q :=
  fun p e s m args below meth c C H locs ls hW hlo hL => lv_irem C.1 C.2.1 hd hne (kk p e s m args below meth c C H locs ls hW hlo hL)
theorem x_ineg {x : Int32} (hd : decode M.2.1 pc = .ok (.ineg, 1)) (kk : xV G l M d mc ms k n (pc + 1) L (.int (-x) :: st) h Q) : xV G l M d mc ms k n pc L (.int x :: st) h Q :=
  fun p e s m args below meth c C H locs ls hW hlo hL => lv_ineg C.1 C.2.1 hd (kk p e s m args below meth c C H locs ls hW hlo hL)
theorem x_ladd {x y : Int64} (hd : decode M.2.1 pc = .ok (.ladd, 1)) (kk : xV G l M d mc ms k n (pc + 1) L (.long (x + y) :: st) h Q) : xV G l M d mc ms k n pc L (.long y :: .long x :: st) h Q :=
  fun p e s m args below meth c C H locs ls hW hlo hL => lv_ladd C.1 C.2.1 hd (kk p e s m args below meth c C H locs ls hW hlo hL)
theorem x_lsub {x y : Int64} (hd : decode M.2.1 pc = .ok (.lsub, 1)) (kk : xV G l M d mc ms k n (pc + 1) L (.long (x - y) :: st) h Q) : xV G l M d mc ms k n pc L (.long y :: .long x :: st) h Q :=
  fun p e s m args below meth c C H locs ls hW hlo hL => lv_lsub C.1 C.2.1 hd (kk p e s m args below meth c C H locs ls hW hlo hL)
theorem x_lmul {x y : Int64} (hd : decode M.2.1 pc = .ok (.lmul, 1)) (kk : xV G l M d mc ms k n (pc + 1) L (.long (x * y) :: st) h Q) : xV G l M d mc ms k n pc L (.long y :: .long x :: st) h Q :=
  fun p e s m args below meth c C H locs ls hW hlo hL => lv_lmul C.1 C.2.1 hd (kk p e s m args below meth c C H locs ls hW hlo hL)
theorem x_ldiv {x y : Int64} (hd : decode M.2.1 pc = .ok (.ldiv, 1)) (hne : ¬ y = 0) (kk : xV G l M d mc ms k n (pc + 1) L (.long (x / y) :: st) h Q) : xV G l M d mc ms k n pc L (.long y :: .long x :: st) h Q :=
  fun p e s m args below meth c C H locs ls hW hlo hL => lv_ldiv C.1 C.2.1 hd hne (kk p e s m args below meth c C H locs ls hW hlo hL)
theorem x_lcmp {x y : Int64} (hd : decode M.2.1 pc = .ok (.lcmp, 1)) (kk : xV G l M d mc ms k n (pc + 1) L (.int (lg_cmp x y) :: st) h Q) : xV G l M d mc ms k n pc L (.long y :: .long x :: st) h Q :=
  fun p e s m args below meth c C H locs ls hW hlo hL => W.lcmp C.1 C.2.1 hd (kk p e s m args below meth c C H locs ls hW hlo hL)
theorem x_i2l {x : Int32} (hd : decode M.2.1 pc = .ok (.i2l, 1)) (kk : xV G l M d mc ms k n (pc + 1) L (.long x.toInt64 :: st) h Q) : xV G l M d mc ms k n pc L (.int x :: st) h Q :=
  fun p e s m args below meth c C H locs ls hW hlo hL => lv_i2l C.1 C.2.1 hd rfl (kk p e s m args below meth c C H locs ls hW hlo hL)
theorem x_l2i {x : Int64} (hd : decode M.2.1 pc = .ok (.l2i, 1)) (kk : xV G l M d mc ms k n (pc + 1) L (.int x.toInt32 :: st) h Q) : xV G l M d mc ms k n pc L (.long x :: st) h Q :=
  fun p e s m args below meth c C H locs ls hW hlo hL => lv_l2i C.1 C.2.1 hd rfl (kk p e s m args below meth c C H locs ls hW hlo hL)
theorem x_dup {va : Value} (hd : decode M.2.1 pc = .ok (.dup, 1)) (ha : va.category = 1) (kk : xV G l M d mc ms k n (pc + 1) L (va :: va :: st) h Q) : xV G l M d mc ms k n pc L (va :: st) h Q :=
  fun p e s m args below meth c C H locs ls hW hlo hL => lv_dup C.1 C.2.1 hd ha (kk p e s m args below meth c C H locs ls hW hlo hL)
theorem x_pop {va : Value} (hd : decode M.2.1 pc = .ok (.pop, 1)) (ha : va.category = 1) (kk : xV G l M d mc ms k n (pc + 1) L st h Q) : xV G l M d mc ms k n pc L (va :: st) h Q :=
  fun p e s m args below meth c C H locs ls hW hlo hL => lv_pop C.1 C.2.1 hd ha (kk p e s m args below meth c C H locs ls hW hlo hL)
theorem x_dup_x1 {va vb : Value} (hd : decode M.2.1 pc = .ok (.dup_x1, 1)) (ha : va.category = 1) (hb : vb.category = 1) (kk : xV G l M d mc ms k n (pc + 1) L (va :: vb :: va :: st) h Q) : xV G l M d mc ms k n pc L (va :: vb :: st) h Q :=
  fun p e s m args below meth c C H locs ls hW hlo hL => lv_dup_x1 C.1 C.2.1 hd ha hb (kk p e s m args below meth c C H locs ls hW hlo hL)
theorem x_dup2 {va vb : Value} (hd : decode M.2.1 pc = .ok (.dup2, 1)) (ha : va.category = 1) (hb : vb.category = 1) (kk : xV G l M d mc ms k n (pc + 1) L (va :: vb :: va :: vb :: st) h Q) : xV G l M d mc ms k n pc L (va :: vb :: st) h Q :=
  fun p e s m args below meth c C H locs ls hW hlo hL => lv_dup2_11 C.1 C.2.1 hd ha hb (kk p e s m args below meth c C H locs ls hW hlo hL)
theorem x_aconst_null (hd : decode M.2.1 pc = .ok (.aconst_null, 1)) (kk : xV G l M d mc ms k n (pc + 1) L (.null :: st) h Q) : xV G l M d mc ms k n pc L st h Q :=
  fun p e s m args below meth c C H locs ls hW hlo hL => lv_null C.1 C.2.1 hd (kk p e s m args below meth c C H locs ls hW hlo hL)
theorem x_if_eq {x : Int32} {off : Int} {tgt : Nat} (hd : decode M.2.1 pc = .ok (.ifCond .eq off, 3)) (ht : (pc : Int) + off = (tgt : Int)) (kt : x = 0 → xV G l M d mc ms k n tgt L st h Q) (kf : ¬ x = 0 → xV G l M d mc ms k n (pc + 3) L st h Q) : xV G l M d mc ms k n pc L (.int x :: st) h Q :=
  fun p e s m args below meth c C H locs ls hW hlo hL => lv_if_eq C.1 C.2.1 hd ht (fun q => kt q p e s m args below meth c C H locs ls hW hlo hL) (fun q => kf q p e s m args below meth c C H locs ls hW hlo hL)
theorem x_icmp_eq {x y : Int32} {off : Int} {tgt : Nat} (hd : decode M.2.1 pc = .ok (.if_icmp .eq off, 3)) (ht : (pc : Int) + off = (tgt : Int)) (kt : x = y → xV G l M d mc ms k n tgt L st h Q) (kf : ¬ x = y → xV G l M d mc ms k n (pc + 3) L st h Q) : xV G l M d mc ms k n pc L (.int y :: .int x :: st) h Q :=
  fun p e s m args below meth c C H locs ls hW hlo hL => lv_icmp_eq C.1 C.2.1 hd ht (fun q => kt q p e s m args below meth c C H locs ls hW hlo hL) (fun q => kf q p e s m args below meth c C H locs ls hW hlo hL)
theorem x_if_ne {x : Int32} {off : Int} {tgt : Nat} (hd : decode M.2.1 pc = .ok (.ifCond .ne off, 3)) (ht : (pc : Int) + off = (tgt : Int)) (kt : ¬ x = 0 → xV G l M d mc ms k n tgt L st h Q) (kf : x = 0 → xV G l M d mc ms k n (pc + 3) L st h Q) : xV G l M d mc ms k n pc L (.int x :: st) h Q :=
  fun p e s m args below meth c C H locs ls hW hlo hL => lv_if_ne C.1 C.2.1 hd ht (fun q => kt q p e s m args below meth c C H locs ls hW hlo hL) (fun q => kf q p e s m args below meth c C H locs ls hW hlo hL)
theorem x_icmp_ne {x y : Int32} {off : Int} {tgt : Nat} (hd : decode M.2.1 pc = .ok (.if_icmp .ne off, 3)) (ht : (pc : Int) + off = (tgt : Int)) (kt : ¬ x = y → xV G l M d mc ms k n tgt L st h Q) (kf : x = y → xV G l M d mc ms k n (pc + 3) L st h Q) : xV G l M d mc ms k n pc L (.int y :: .int x :: st) h Q :=
  fun p e s m args below meth c C H locs ls hW hlo hL => lv_icmp_ne C.1 C.2.1 hd ht (fun q => kt q p e s m args below meth c C H locs ls hW hlo hL) (fun q => kf q p e s m args below meth c C H locs ls hW hlo hL)
theorem x_if_lt {x : Int32} {off : Int} {tgt : Nat} (hd : decode M.2.1 pc = .ok (.ifCond .lt off, 3)) (ht : (pc : Int) + off = (tgt : Int)) (kt : x < 0 → xV G l M d mc ms k n tgt L st h Q) (kf : ¬ x < 0 → xV G l M d mc ms k n (pc + 3) L st h Q) : xV G l M d mc ms k n pc L (.int x :: st) h Q :=
  fun p e s m args below meth c C H locs ls hW hlo hL => lv_if_lt C.1 C.2.1 hd ht (fun q => kt q p e s m args below meth c C H locs ls hW hlo hL) (fun q => kf q p e s m args below meth c C H locs ls hW hlo hL)
theorem x_icmp_lt {x y : Int32} {off : Int} {tgt : Nat} (hd : decode M.2.1 pc = .ok (.if_icmp .lt off, 3)) (ht : (pc : Int) + off = (tgt : Int)) (kt : x < y → xV G l M d mc ms k n tgt L st h Q) (kf : ¬ x < y → xV G l M d mc ms k n (pc + 3) L st h Q) : xV G l M d mc ms k n pc L (.int y :: .int x :: st) h Q :=
  fun p e s m args below meth c C H locs ls hW hlo hL => lv_icmp_lt C.1 C.2.1 hd ht (fun q => kt q p e s m args below meth c C H locs ls hW hlo hL) (fun q => kf q p e s m args below meth c C H locs ls hW hlo hL)
theorem x_if_ge {x : Int32} {off : Int} {tgt : Nat} (hd : decode M.2.1 pc = .ok (.ifCond .ge off, 3)) (ht : (pc : Int) + off = (tgt : Int)) (kt : 0 ≤ x → xV G l M d mc ms k n tgt L st h Q) (kf : ¬ 0 ≤ x → xV G l M d mc ms k n (pc + 3) L st h Q) : xV G l M d mc ms k n pc L (.int x :: st) h Q :=
  fun p e s m args below meth c C H locs ls hW hlo hL => lv_if_ge C.1 C.2.1 hd ht (fun q => kt q p e s m args below meth c C H locs ls hW hlo hL) (fun q => kf q p e s m args below meth c C H locs ls hW hlo hL)
theorem x_icmp_ge {x y : Int32} {off : Int} {tgt : Nat} (hd : decode M.2.1 pc = .ok (.if_icmp .ge off, 3)) (ht : (pc : Int) + off = (tgt : Int)) (kt : y ≤ x → xV G l M d mc ms k n tgt L st h Q) (kf : ¬ y ≤ x → xV G l M d mc ms k n (pc + 3) L st h Q) : xV G l M d mc ms k n pc L (.int y :: .int x :: st) h Q :=
  fun p e s m args below meth c C H locs ls hW hlo hL => lv_icmp_ge C.1 C.2.1 hd ht (fun q => kt q p e s m args below meth c C H locs ls hW hlo hL) (fun q => kf q p e s m args below meth c C H locs ls hW hlo hL)
theorem x_if_gt {x : Int32} {off : Int} {tgt : Nat} (hd : decode M.2.1 pc = .ok (.ifCond .gt off, 3)) (ht : (pc : Int) + off = (tgt : Int)) (kt : 0 < x → xV G l M d mc ms k n tgt L st h Q) (kf : ¬ 0 < x → xV G l M d mc ms k n (pc + 3) L st h Q) : xV G l M d mc ms k n pc L (.int x :: st) h Q :=
  fun p e s m args below meth c C H locs ls hW hlo hL => lv_if_gt C.1 C.2.1 hd ht (fun q => kt q p e s m args below meth c C H locs ls hW hlo hL) (fun q => kf q p e s m args below meth c C H locs ls hW hlo hL)
theorem x_icmp_gt {x y : Int32} {off : Int} {tgt : Nat} (hd : decode M.2.1 pc = .ok (.if_icmp .gt off, 3)) (ht : (pc : Int) + off = (tgt : Int)) (kt : y < x → xV G l M d mc ms k n tgt L st h Q) (kf : ¬ y < x → xV G l M d mc ms k n (pc + 3) L st h Q) : xV G l M d mc ms k n pc L (.int y :: .int x :: st) h Q :=
  fun p e s m args below meth c C H locs ls hW hlo hL => lv_icmp_gt C.1 C.2.1 hd ht (fun q => kt q p e s m args below meth c C H locs ls hW hlo hL) (fun q => kf q p e s m args below meth c C H locs ls hW hlo hL)
theorem x_if_le {x : Int32} {off : Int} {tgt : Nat} (hd : decode M.2.1 pc = .ok (.ifCond .le off, 3)) (ht : (pc : Int) + off = (tgt : Int)) (kt : x ≤ 0 → xV G l M d mc ms k n tgt L st h Q) (kf : ¬ x ≤ 0 → xV G l M d mc ms k n (pc + 3) L st h Q) : xV G l M d mc ms k n pc L (.int x :: st) h Q :=
  fun p e s m args below meth c C H locs ls hW hlo hL => lv_if_le C.1 C.2.1 hd ht (fun q => kt q p e s m args below meth c C H locs ls hW hlo hL) (fun q => kf q p e s m args below meth c C H locs ls hW hlo hL)
theorem x_icmp_le {x y : Int32} {off : Int} {tgt : Nat} (hd : decode M.2.1 pc = .ok (.if_icmp .le off, 3)) (ht : (pc : Int) + off = (tgt : Int)) (kt : x ≤ y → xV G l M d mc ms k n tgt L st h Q) (kf : ¬ x ≤ y → xV G l M d mc ms k n (pc + 3) L st h Q) : xV G l M d mc ms k n pc L (.int y :: .int x :: st) h Q :=
  fun p e s m args below meth c C H locs ls hW hlo hL => lv_icmp_le C.1 C.2.1 hd ht (fun q => kt q p e s m args below meth c C H locs ls hW hlo hL) (fun q => kf q p e s m args below meth c C H locs ls hW hlo hL)
theorem x_goto {off : Int} {tgt : Nat} (hd : decode M.2.1 pc = .ok (.goto off, 3)) (ht : (pc : Int) + off = (tgt : Int)) (kk : xV G l M d mc ms k n tgt L st h Q) : xV G l M d mc ms k n pc L st h Q :=
  fun p e s m args below meth c C H locs ls hW hlo hL => lv_goto C.1 C.2.1 hd ht (kk p e s m args below meth c C H locs ls hW hlo hL)
theorem x_ifnonnull {x : Nat} {off : Int} {tgt : Nat} (hd : decode M.2.1 pc = .ok (.ifnonnull off, 3)) (ht : (pc : Int) + off = (tgt : Int)) (kk : xV G l M d mc ms k n tgt L st h Q) : xV G l M d mc ms k n pc L (.ref x :: st) h Q :=
  fun p e s m args below meth c C H locs ls hW hlo hL => lv_ifnonnull C.1 C.2.1 hd ht (kk p e s m args below meth c C H locs ls hW hlo hL)
theorem x_ifnull {x : Nat} {off : Int} (hd : decode M.2.1 pc = .ok (.ifnull off, 3)) (kk : xV G l M d mc ms k n (pc + 3) L st h Q) : xV G l M d mc ms k n pc L (.ref x :: st) h Q :=
  fun p e s m args below meth c C H locs ls hW hlo hL => lv_ifnull C.1 C.2.1 hd (kk p e s m args below meth c C H locs ls hW hlo hL)
theorem x_ifnullN {off : Int} {tgt : Nat} (hd : decode M.2.1 pc = .ok (.ifnull off, 3)) (ht : (pc : Int) + off = (tgt : Int)) (kk : xV G l M d mc ms k n tgt L st h Q) : xV G l M d mc ms k n pc L (.null :: st) h Q :=
  fun p e s m args below meth c C H locs ls hW hlo hL => lv_ifnullN C.1 C.2.1 hd ht (kk p e s m args below meth c C H locs ls hW hlo hL)
theorem x_ifnonnullN {off : Int} (hd : decode M.2.1 pc = .ok (.ifnonnull off, 3)) (kk : xV G l M d mc ms k n (pc + 3) L st h Q) : xV G l M d mc ms k n pc L (.null :: st) h Q :=
  fun p e s m args below meth c C H locs ls hW hlo hL => lv_ifnonnullN C.1 C.2.1 hd (kk p e s m args below meth c C H locs ls hW hlo hL)
theorem x_acmp_eq {a b : Nat} {off : Int} {tgt : Nat} (hd : decode M.2.1 pc = .ok (.if_acmp .eq off, 3)) (ht : (pc : Int) + off = (tgt : Int)) (kt : a = b → xV G l M d mc ms k n tgt L st h Q) (kf : ¬ a = b → xV G l M d mc ms k n (pc + 3) L st h Q) : xV G l M d mc ms k n pc L (.ref b :: .ref a :: st) h Q :=
  fun p e s m args below meth c C H locs ls hW hlo hL => lv_acmp_eq (rx := some a) (ry := some b) C.1 C.2.1 hd ht (fun q => kt (Option.some.inj q) p e s m args below meth c C H locs ls hW hlo hL) (fun q => kf (fun z => q (congrArg some z)) p e s m args below meth c C H locs ls hW hlo hL)
theorem x_ldc {i : Nat} {v : Int32} (hd : decode M.2.1 pc = .ok (.ldc i, 2)) (hw : Cond.constant M.1.cls i v ∈ M.2.2.2.2) (kk : xV G l M d mc ms k n (pc + 2) L (.int v :: st) h Q) : xV G l M d mc ms k n pc L st h Q :=
  fun p e s m args below meth c C H locs ls hW hlo hL => lv_ldc C.1 C.2.1 C.2.2.2.2.1 (C.2.2.2.2.2.1 _ hw) hd (kk p e s m args below meth c C H locs ls hW hlo hL)
theorem x_ldcw {i : Nat} {v : Int32} (hd : decode M.2.1 pc = .ok (.ldc_w i, 3)) (hw : Cond.constant M.1.cls i v ∈ M.2.2.2.2) (kk : xV G l M d mc ms k n (pc + 3) L (.int v :: st) h Q) : xV G l M d mc ms k n pc L st h Q :=
  fun p e s m args below meth c C H locs ls hW hlo hL => lv_ldcw C.1 C.2.1 C.2.2.2.2.1 (C.2.2.2.2.2.1 _ hw) hd (kk p e s m args below meth c C H locs ls hW hlo hL)
theorem x_ldc2 {i : Nat} {v : Int64} (hd : decode M.2.1 pc = .ok (.ldc2_w i, 3)) (hw : Cond.constantLong M.1.cls i v ∈ M.2.2.2.2) (kk : xV G l M d mc ms k n (pc + 3) L (.long v :: st) h Q) : xV G l M d mc ms k n pc L st h Q :=
  fun p e s m args below meth c C H locs ls hW hlo hL => lv_ldc2 C.1 C.2.1 C.2.2.2.2.1 (C.2.2.2.2.2.1 _ hw) hd (kk p e s m args below meth c C H locs ls hW hlo hL)
theorem x_tin {df lo hi : Int} {offs : Array Int} {len : Nat} {x : Int32} {off : Int} {tgt : Nat} (hd : decode M.2.1 pc = .ok (.tableswitch df lo hi offs, len)) (h1 : ¬ x.toInt < lo) (h2 : ¬ hi < x.toInt) (ho : offs[(x.toInt - lo).toNat]? = some off) (ht : (pc : Int) + off = (tgt : Int)) (kk : xV G l M d mc ms k n tgt L st h Q) : xV G l M d mc ms k n pc L (.int x :: st) h Q :=
  fun p e s m args below meth c C H locs ls hW hlo hL => lv_tableIn C.1 C.2.1 hd h1 h2 ho ht (kk p e s m args below meth c C H locs ls hW hlo hL)
theorem x_tout {df lo hi : Int} {offs : Array Int} {len : Nat} {x : Int32} {tgt : Nat} (hd : decode M.2.1 pc = .ok (.tableswitch df lo hi offs, len)) (hx : x.toInt < lo ∨ hi < x.toInt) (ht : (pc : Int) + df = (tgt : Int)) (kk : xV G l M d mc ms k n tgt L st h Q) : xV G l M d mc ms k n pc L (.int x :: st) h Q :=
  fun p e s m args below meth c C H locs ls hW hlo hL => lv_tableOut C.1 C.2.1 hd hx ht (kk p e s m args below meth c C H locs ls hW hlo hL)
theorem x_look {df : Int} {ps : Array (Int × Int)} {len : Nat} {x : Int32} {off : Int} {tgt : Nat} (hd : decode M.2.1 pc = .ok (.lookupswitch df ps, len)) (hp : (ps.toList.zip (ps.toList.drop 1)).all (fun (a, next) => a.1 < next.1) = true) (ho : Op.lookupswitch.offset ps.toList df x.toInt = off) (ht : (pc : Int) + off = (tgt : Int)) (kk : xV G l M d mc ms k n tgt L st h Q) : xV G l M d mc ms k n pc L (.int x :: st) h Q :=
  fun p e s m args below meth c C H locs ls hW hlo hL => lv_lookup C.1 C.2.1 hd hp ho ht (kk p e s m args below meth c C H locs ls hW hlo hL)
theorem x_iret {v : Int32} (hd : decode M.2.1 pc = .ok (.ireturn, 1)) (hr : M.2.2.2.1 = some .int) (hQ : Q (some (.int v)) h) (hk : k ≤ mc := by exact Nat.le_refl _) (hn : n ≤ ms := by exact Nat.le_refl _) : xV G l M d mc ms k n pc L [.int v] h Q := by
  intro p e s m args below meth c C H locs ls hW hlo hL
  refine W.widen hk hn ?_
  exact W.iret (v := v) C.1 C.2.1 (C.2.2.1.trans hr) (fun t ht hw => ⟨_, h, rfl, hQ, by rw [ht]; exact hW⟩) hlo hd C.2.2.2.2.2.2.1
theorem x_zret {v : Int32} {ty : FieldType} (hd : decode M.2.1 pc = .ok (.ireturn, 1)) (hr : M.2.2.2.1 = some ty) (hv : narrow ty (.int v) = .int v) (hQ : Q (some (.int v)) h) (hk : k ≤ mc := by exact Nat.le_refl _) (hn : n ≤ ms := by exact Nat.le_refl _) : xV G l M d mc ms k n pc L [.int v] h Q := by
  intro p e s m args below meth c C H locs ls hW hlo hL
  refine W.widen hk hn ?_
  exact W.zret (v := v) C.1 C.2.1 (C.2.2.1.trans hr) hv (fun t ht hw => ⟨_, h, rfl, hQ, by rw [ht]; exact hW⟩) hlo hd C.2.2.2.2.2.2.1
theorem x_lret {v : Int64} (hd : decode M.2.1 pc = .ok (.lreturn, 1)) (hr : M.2.2.2.1 = some .long) (hQ : Q (some (.long v)) h) (hk : k ≤ mc := by exact Nat.le_refl _) (hn : n ≤ ms := by exact Nat.le_refl _) : xV G l M d mc ms k n pc L [.long v] h Q := by
  intro p e s m args below meth c C H locs ls hW hlo hL
  refine W.widen hk hn ?_
  exact W.lret (v := v) C.1 C.2.1 (C.2.2.1.trans hr) (fun t ht hw => ⟨_, h, rfl, hQ, by rw [ht]; exact hW⟩) hlo hd C.2.2.2.2.2.2.1
theorem x_vret (hd : decode M.2.1 pc = .ok (.return_, 1)) (hr : M.2.2.2.1 = none) (hQ : Q none h) (hk : k ≤ mc := by exact Nat.le_refl _) (hn : n ≤ ms := by exact Nat.le_refl _) : xV G l M d mc ms k n pc L [] h Q := by
  intro p e s m args below meth c C H locs ls hW hlo hL
  refine W.widen hk hn ?_
  exact W.vret C.1 C.2.1 (C.2.2.1.trans hr) (fun t ht hw => ⟨_, h, rfl, hQ, by rw [ht]; exact hW⟩) hlo hd C.2.2.2.2.2.2.1
theorem x_aret {v : Value} {rt : FieldType} (hd : decode M.2.1 pc = .ok (.areturn, 1)) (hr : M.2.2.2.1 = some rt) (hrt : (∃ n, rt = .object n) ∨ ∃ t, rt = .array t) (hv : v = .null ∨ ∃ a, v = .ref a) (hQ : Q (some v) h) (hk : k ≤ mc := by exact Nat.le_refl _) (hn : n ≤ ms := by exact Nat.le_refl _) : xV G l M d mc ms k n pc L [v] h Q := by
  intro p e s m args below meth c C H locs ls hW hlo hL
  refine W.widen hk hn ?_
  exact W.aret (v := v) C.1 C.2.1 (C.2.2.1.trans hr) hrt hv (fun t ht hw => ⟨_, h, rfl, hQ, by rw [ht]; exact hW⟩) hlo hd C.2.2.2.2.2.2.1
end XR
