/-! THE CALCULUS. xV: a walk of one method over a heap that is told cell by cell (a function from addresses); Q is what must hold of the answer and of the heap behind the method. -/
abbrev xH : Type := Nat → Option va_E
/-- what is fixed from the law's start on: classes and slots; the classes of int[], boolean[], Object[]; the first address that is ours; the heap below it; the addresses of the three static rows -/
abbrev xG : Type := va_G × (ClassId × ClassId × ClassId) × Nat × Heap × (Nat × Nat × Nat)
abbrev xD (G : xG) : va_G := G.1
abbrev xI (G : xG) : ClassId := G.2.1.1
abbrev xZ (G : xG) : ClassId := G.2.1.2.1
abbrev xO (G : xG) : ClassId := G.2.1.2.2
abbrev xB (G : xG) : Nat := G.2.2.1
abbrev xH0 (G : xG) : Heap := G.2.2.2.1
abbrev xT1 (G : xG) : Nat := G.2.2.2.2.1
abbrev xT2 (G : xG) : Nat := G.2.2.2.2.2.1
abbrev xT3 (G : xG) : Nat := G.2.2.2.2.2.2
/-- an int row, a boolean row, a row of objects, an object -/
abbrev xRi (G : xG) (n : Nat) (f : Nat → Int32) : va_E := .inl (xI G, n, .inl f)
abbrev xRz (G : xG) (n : Nat) (f : Nat → Int32) : va_E := .inl (xZ G, n, .inl f)
abbrev xRo (G : xG) (n : Nat) (f : Nat → Option Nat) : va_E := .inl (xO G, n, .inr (.inr (.inr (.inr f))))
abbrev xOb (ci : Nat) (fs : List Value) : va_E := .inr (ci, fs)
def xup (h : xH) (a : Nat) (c : va_E) : xH := fun q => if q = a then some c else h q
theorem xup_s {h : xH} {a : Nat} {c : va_E} : xup h a c a = some c := by simp [xup]
theorem xup_n {h : xH} {a b : Nat} {c : va_E} (e : b ≠ a) : xup h a c b = h b := by simp [xup, e]
theorem xup_k {h : xH} {a b : Nat} {c : va_E} {z : Option va_E} (e : b ≠ a) (hb : h b = z) : xup h a c b = z := by rw [xup_n e]; exact hb
theorem xup_u {h : xH} {a : Nat} {c c' : va_E} : xup (xup h a c) a c' = xup h a c' := by
  funext q; simp only [xup]; split <;> rfl
theorem xup_c {h : xH} {a b : Nat} {c c' : va_E} (e : a ≠ b) : xup (xup h a c) b c' = xup (xup h b c') a c := by
  funext q; simp only [xup]
  by_cases h1 : q = a
  · subst h1; simp [e]
  · simp [h1]
theorem xup_same {h : xH} {a : Nat} {c : va_E} (e : h a = some c) : xup h a c = h := by
  funext q; simp only [xup]
  by_cases h1 : q = a
  · subst h1; simp [e]
  · simp [h1]
/-- the heap holds the cells, and below our first address it is as at the law's start -/
def xWd (G : xG) (h : xH) (H : Heap) : Prop := xB G ≤ H.size ∧ (∀ q : Nat, q < xB G → H[q]? = (xH0 G)[q]?) ∧ ∀ (a : Nat) (c : va_E), h a = some c → va_at (xD G) vwCl (a, c) H ∧ xB G ≤ a
/-- the static rows -/
def xSt (G : xG) (U : State) : Prop :=
  va_Z "SignCharts" "TICK_STEPS" "[I" (.ref (xT1 G)) (fun q => xB G ≤ q) U (xH0 G) ∧ va_Z "SignCharts" "DOT_BITS" "[I" (.ref (xT2 G)) (fun q => xB G ≤ q) U (xH0 G) ∧ va_Z "java/util/ArrayList" "DEFAULTCAPACITY_EMPTY_ELEMENTDATA" "[Ljava/lang/Object;" (.ref (xT3 G)) (fun q => xB G ≤ q) U (xH0 G)
def xTick : List Int32 := [1, 2, 5, 10, 20, 25, 50, 100, 200, 250, 500, 1000, 2000, 2500, 5000, 10000, 20000, 25000, 50000, 100000, 200000, 250000, 500000, 1000000, 2000000]
def xBits : List Int32 := [1, 2, 4, 64, 8, 16, 32, 128]
def xSr (G : xG) (U : State) : Prop :=
  va_T .int (xT1 G) 25 (fun j => .int (xTick.getD j 0)) (fun q => xB G ≤ q) U (xH0 G) ∧ va_T .int (xT2 G) 8 (fun j => .int (xBits.getD j 0)) (fun q => xB G ≤ q) U (xH0 G) ∧ va_T (.object "java/lang/Object") (xT3 G) 0 (fun _ => .null) (fun q => xB G ≤ q) U (xH0 G)
/-- links across the nest, the casts, the class Object[] -/
def xNw (U : State) : Prop := va_Nw (.fieldLinkNest "SignCharts$Scale" 52 "SignCharts" "TICK_STEPS" "[I" "SignCharts") U ∧ va_Nw (.fieldLinkNest "SignCharts$Sheet" 67 "SignCharts" "DOT_BITS" "[I" "SignCharts") U ∧ va_Nw (.methodLinkNest "SignCharts" 11 ⟨"SignCharts$Page", "<init>", "()V"⟩ "SignCharts") U ∧ va_Nw (.methodLinkNest "SignCharts" 25 ⟨"SignCharts$Labels", "<init>", "()V"⟩ "SignCharts") U ∧ va_Nw (.castable "SignCharts$Series" "java/lang/Object") U ∧ va_AO "java/lang/Object" U
theorem xNw.to {s U : State} (hW : s.WarmedH U.vm) (h : xNw s) : xNw U := by
  obtain ⟨h1, h2, h3, h4, h5, h6⟩ := h
  exact ⟨va_Nw.warmF hW h1, va_Nw.warmF hW h2, va_Nw.warmM hW h3, va_Nw.warmM hW h4, va_Nw.warmC hW h5, va_AO.moved hW.alike h6⟩
/-- what the tables say, at a state -/
def xK (G : xG) (U : State) : Prop := va_K (xD G) vwCl [(xI G, .int), (xZ G, .boolean), (xO G, .object "java/lang/Object")] U ∧ (∀ q ∈ vwCl, ∀ w ∈ u_ws q.1 q.2.1 q.2.2, ∀ a : Array Value, w.before a U = true) ∧ xSt G U ∧ xSr G U ∧ U.vm.findClass "[I" = some (xI G) ∧ U.vm.findClass "[Z" = some (xZ G) ∧ U.vm.findClass "[Ljava/lang/Object;" = some (xO G) ∧ xNw U
theorem xlay_good : ∀ q ∈ vwCl, ∀ w ∈ u_ws q.1 q.2.1 q.2.2, goodWord w = true := by decide +kernel
theorem xK.to {G : xG} {s U : State} (hW : s.WarmedH U.vm) (h : xK G s) : xK G U := by
  obtain ⟨h1, h2, ⟨a1, a2, a3⟩, ⟨b1, b2, b3⟩, c1, c2, c3, c4⟩ := h
  have ha := hW.alike
  exact ⟨va_K.moved ha h1, fun q hq w hw a => word_at hW (good_of_word (xlay_good q hq w hw)) (h2 q hq w hw #[]), ⟨va_Z.moved ha a1, va_Z.moved ha a2, va_Z.moved ha a3⟩, ⟨va_T.moved ha b1, va_T.moved ha b2, va_T.moved ha b3⟩, by rw [ha.findClass]; exact c1, by rw [ha.findClass]; exact c2, by rw [ha.findClass]; exact c3, c4.to hW⟩
/-- a method: its name, code, locals, answer, words -/
abbrev xM : Type := MethodName × ByteArray × Nat × Option FieldType × List Cond
/-- the room of a method that nests d deep and makes mc cells of ms slots -/
def xR (d mc ms : Nat) : Room := { frames := d, cells := mc, slots := ms, locals := 32 * d }
def xU : Value := .retAddr 0
/-- the locals by place; xU: nothing is said -/
def xLs (ls : Array Slot) (n : Nat) (L : List Value) : Prop := ls.size = n ∧ lv_wf ls ∧ ∀ (i : Nat) (v : Value), L[i]? = some v → v ≠ xU → ls[i]? = some (.val v)
/-- what a method's walk stands on -/
def xC (G : xG) (M : xM) (p : Program) (s : State) (m : MethodId) (args : Array Value) (meth : Method) (c : Code) : Prop :=
  p.tables.exec = Jvm.exec ∧ c.code = M.2.1 ∧ meth.sig.returnType = M.2.2.2.1 ∧ c.maxLocals = M.2.2.1 ∧ s.vm.findClass M.1.cls = some m.cls ∧ (∀ w ∈ M.2.2.2.2, w.before args s = true) ∧ meth.locks = false ∧ xK G s ∧ meth.name = M.1.name
def xQ (G : xG) (Q : Option Value → xH → Prop) : Array Value → State → Outcome → State → Prop := fun _ _ o t => ∃ (r : Option Value) (h : xH), o = .returned r ∧ Q r h ∧ xWd G h t.heap
def xV (G : xG) (l : Launch) (M : xM) (d mc ms k n pc : Nat) (L st : List Value) (h : xH) (Q : Option Value → xH → Prop) : Prop :=
  ∀ (p : Program) (e : Env) (s : State) (m : MethodId) (args : Array Value) (below : List Frame) (meth : Method) (c : Code), xC G M p s m args meth c → ∀ (H : Heap) (locs : List Loc) (ls : Array Slot), xWd G h H → (∀ q ∈ locs, xB G ≤ q.base) → xLs ls M.2.2.1 L →
    W p l e (xR d mc ms) s m args below meth c H locs k n (MQ below (xQ G Q) args s mc ms (fun q => xB G ≤ q)) (F0 m pc ls st)
theorem xV.mono {G : xG} {l : Launch} {M : xM} {d mc ms k n pc : Nat} {L st : List Value} {h : xH} {Q Q' : Option Value → xH → Prop} (hq : ∀ r h', Q r h' → Q' r h') (hv : xV G l M d mc ms k n pc L st h Q) : xV G l M d mc ms k n pc L st h Q' := by
  intro p e s m args below meth c C H locs ls hW hlo hL T hT X
  obtain ⟨t, h1, o, h2, h3, ⟨r, h', h4, h5, h6⟩, h7⟩ := hv p e s m args below meth c C H locs ls hW hlo hL T hT X
  exact ⟨t, h1, o, h2, h3, ⟨r, h', h4, hq r h' h5, h6⟩, h7⟩
/-- locals of which less is said -/
theorem xV.less {G : xG} {l : Launch} {M : xM} {d mc ms k n pc : Nat} {L L' st : List Value} {h : xH} {Q : Option Value → xH → Prop} (hl : ∀ (i : Nat) (v : Value), L'[i]? = some v → v ≠ xU → L[i]? = some v) (hv : xV G l M d mc ms k n pc L' st h Q) : xV G l M d mc ms k n pc L st h Q :=
  fun p e s m args below meth c C H locs ls hW hlo hL => hv p e s m args below meth c C H locs ls hW hlo ⟨hL.1, hL.2.1, fun i v h1 h2 => hL.2.2 i v (hl i v h1 h2) h2⟩
/-- the locals as pairs, for the kit's rows -/
def xas : Nat → List Value → List (Nat × Value)
  | _, [] => []
  | i, v :: vs => if v = xU then xas (i + 1) vs else (i, v) :: xas (i + 1) vs
theorem xas_mem {L : List Value} : ∀ {i : Nat} {q : Nat × Value}, q ∈ xas i L → i ≤ q.1 ∧ L[q.1 - i]? = some q.2 ∧ q.2 ≠ xU := by
  induction L with
  | nil => intro i q h; simp [xas] at h
  | cons v vs ih =>
    intro i q h
    have go : q ∈ xas (i + 1) vs → i ≤ q.1 ∧ (v :: vs)[q.1 - i]? = some q.2 ∧ q.2 ≠ xU := by
      intro h
      obtain ⟨h1, h2, h3⟩ := ih h
      refine ⟨by omega, ?_, h3⟩
      rw [show q.1 - i = (q.1 - (i + 1)) + 1 by omega, List.getElem?_cons_succ]
      exact h2
    by_cases hv : v = xU
    · rw [xas, if_pos hv] at h; exact go h
    · rw [xas, if_neg hv] at h
      rcases List.mem_cons.mp h with h | h
      · subst h; exact ⟨Nat.le_refl _, by simp, hv⟩
      · exact go h
theorem xas_of {L : List Value} : ∀ {i j : Nat} {v : Value}, L[j]? = some v → v ≠ xU → (i + j, v) ∈ xas i L := by
  induction L with
  | nil => intro i j v h; simp at h
  | cons w vs ih =>
    intro i j v h hv
    cases j with
    | zero =>
      have hw : w = v := by simpa using h
      rw [xas, if_neg (by rw [hw]; exact hv), hw]; simp
    | succ j =>
      have h2 := ih (i := i + 1) (j := j) (by simpa using h) hv
      rw [show i + (j + 1) = i + 1 + j by omega]
      by_cases hw : w = xU
      · rw [xas, if_pos hw]; exact h2
      · rw [xas, if_neg hw]; exact List.mem_cons_of_mem _ h2
theorem xLs.has {ls : Array Slot} {n : Nat} {L : List Value} (h : xLs ls n L) : lv_has ls n (xas 0 L) := by
  refine ⟨h.1, h.2.1, fun q hq => ?_⟩
  obtain ⟨-, h2, h3⟩ := xas_mem hq
  exact h.2.2 q.1 q.2 (by simpa using h2) h3
/-- no long stands right before place i -/
def xnl : Nat → List Value → Bool
  | 0, _ => true
  | i + 1, L => match L[i]? with
    | some v => v.category == 1
    | none => true
theorem xLs.set1 {ls : Array Slot} {n : Nat} {L : List Value} {i : Nat} {v : Value} (hnl : xnl i L = true) (h : lv_has ls n ((i, v) :: (xas 0 L).filter (fun q => !(q.1 == i) && !(q.1 + 1 == i && q.2.category == 2)))) : xLs ls n (L.set i v) := by
  refine ⟨h.1, h.2.1, fun j w hw hu => ?_⟩
  by_cases hj : j = i
  · subst hj
    have hw2 : w = v := by
      by_cases hl : j < L.length
      · rw [List.getElem?_set_self hl] at hw; exact (Option.some.inj hw).symm
      · rw [List.getElem?_eq_none (by simpa using hl)] at hw; cases hw
    rw [hw2]
    exact h.2.2 (j, v) List.mem_cons_self
  · rw [List.getElem?_set_ne (fun e => hj e.symm)] at hw
    have hm : (j, w) ∈ xas 0 L := by simpa using xas_of (i := 0) hw hu
    refine h.2.2 (j, w) (List.mem_cons_of_mem _ (List.mem_filter.mpr ⟨hm, ?_⟩))
    have hc : ¬ (j + 1 = i ∧ w.category = 2) := by
      rintro ⟨h1, h2⟩
      subst h1
      simp [xnl, hw, h2] at hnl
    simp only [Bool.and_eq_true, Bool.not_eq_true', beq_eq_false_iff_ne, ne_eq]
    refine ⟨hj, ?_⟩
    rw [Bool.and_eq_false_iff]
    by_cases h1 : j + 1 = i
    · right; simp; exact fun h2 => hc ⟨h1, h2⟩
    · left; simp [h1]
theorem xLs.set2 {ls : Array Slot} {n : Nat} {L : List Value} {i : Nat} {v : Value} (hnl : xnl i L = true) (h : lv_has ls n ((i, v) :: (xas 0 L).filter (fun q => !(q.1 == i) && (!(q.1 == i + 1) && !(q.1 + 1 == i && q.2.category == 2))))) : xLs ls n ((L.set i v).set (i + 1) xU) := by
  refine ⟨h.1, h.2.1, fun j w hw hu => ?_⟩
  by_cases hj1 : j = i + 1
  · subst hj1
    by_cases hl : i + 1 < (L.set i v).length
    · rw [List.getElem?_set_self hl] at hw; exact absurd (Option.some.inj hw).symm hu
    · rw [List.getElem?_eq_none (by simpa using hl)] at hw; cases hw
  · rw [List.getElem?_set_ne (fun e => hj1 e.symm)] at hw
    by_cases hj : j = i
    · subst hj
      have hw2 : w = v := by
        by_cases hl : j < L.length
        · rw [List.getElem?_set_self hl] at hw; exact (Option.some.inj hw).symm
        · rw [List.getElem?_eq_none (by simpa using hl)] at hw; cases hw
      rw [hw2]
      exact h.2.2 (j, v) List.mem_cons_self
    · rw [List.getElem?_set_ne (fun e => hj e.symm)] at hw
      have hm : (j, w) ∈ xas 0 L := by simpa using xas_of (i := 0) hw hu
      refine h.2.2 (j, w) (List.mem_cons_of_mem _ (List.mem_filter.mpr ⟨hm, ?_⟩))
      have hc : ¬ (j + 1 = i ∧ w.category = 2) := by
        rintro ⟨h1, h2⟩
        subst h1
        simp [xnl, hw, h2] at hnl
      simp only [Bool.and_eq_true, Bool.not_eq_true', beq_eq_false_iff_ne, ne_eq]
      refine ⟨hj, hj1, ?_⟩
      rw [Bool.and_eq_false_iff]
      by_cases h1 : j + 1 = i
      · right; simp; exact fun h2 => hc ⟨h1, h2⟩
      · left; simp [h1]
