/-! PURE: labels that are gone -/
abbrev zT5 : Type := Int32 × Int32 × Int32 × Int32 × Int32
def lbC (U : Nat → Nat → Int32) (i : Nat) : zT5 := (U 1 i, U 2 i, U 3 i, U 4 i, U 5 i)
def lbR (X : Nat → Nat → Int32) (i : Nat) : zT5 := (X 17 i, X 18 i, X 19 i, X 20 i, X 21 i)
def lbK (s q : Int32) (e : zT5) : Bool := !(decide (e.2.2.2.1 = s) && decide (e.2.2.2.2 = q))
def rg9 (f : Nat → zT5) (j m : Nat) : List zT5 := (List.range' j m).map f
theorem rg9_0 {f : Nat → zT5} {j : Nat} : rg9 f j 0 = [] := rfl
theorem rg9_s {f : Nat → zT5} {j m : Nat} : rg9 f j (m + 1) = f j :: rg9 f (j + 1) m := rfl
theorem rg9_e {f : Nat → zT5} {m : Nat} : ∀ {j : Nat}, rg9 f j (m + 1) = rg9 f j m ++ [f (j + m)] := by
  induction m with
  | zero => intro j; rfl
  | succ m ih =>
    intro j
    rw [rg9_s, ih, rg9_s, List.cons_append, show j + 1 + m = j + (m + 1) by omega]
theorem rg9_cong {f g : Nat → zT5} : ∀ {m j : Nat}, (∀ i, j ≤ i → i < j + m → f i = g i) → rg9 f j m = rg9 g j m := by
  intro m
  induction m with
  | zero => intro j _; rfl
  | succ m ih =>
    intro j h
    rw [rg9_s, rg9_s, h j (by omega) (by omega), ih (fun i h1 h2 => h i (by omega) (by omega))]
theorem rg9_len {f : Nat → zT5} {j m : Nat} : (rg9 f j m).length = m := by unfold rg9; rw [List.length_map, List.length_range']
theorem rg9_at {f : Nat → zT5} {m i : Nat} (h : i < m) : (rg9 f 0 m)[i]? = some (f i) := by
  unfold rg9
  rw [List.getElem?_map, List.getElem?_range' h]
  simp
theorem lbMv_at {U : Nat → Nat → Int32} {m j i : Nat} : lbC (lbMv U m j) i = if i = m then lbC U j else lbC U i := by
  unfold lbC lbMv va_up
  simp only [show (1 : Nat) = 5 ↔ False by decide, show (1 : Nat) = 4 ↔ False by decide, show (1 : Nat) = 3 ↔ False by decide, show (1 : Nat) = 2 ↔ False by decide, show (2 : Nat) = 5 ↔ False by decide, show (2 : Nat) = 4 ↔ False by decide, show (2 : Nat) = 3 ↔ False by decide, show (3 : Nat) = 5 ↔ False by decide, show (3 : Nat) = 4 ↔ False by decide, show (4 : Nat) = 5 ↔ False by decide, if_true, if_false, upd]
  split <;> rfl
theorem rm_list (s q : Int32) : ∀ (n9 j m : Nat) (U : Nat → Nat → Int32), m ≤ j → rg9 (lbC (LX0_rm s q n9 j m U).2) 0 (LX0_rm s q n9 j m U).1 = rg9 (lbC U) 0 m ++ (rg9 (lbC U) j n9).filter (lbK s q) := by
  intro n9
  induction n9 with
  | zero => intro j m U _; rw [LX0_rm, rg9_0, List.filter_nil, List.append_nil]
  | succ n9 ih =>
    intro j m U hm
    rw [LX0_rm, rg9_s]
    by_cases z : U 4 j = s ∧ U 5 j = q
    · have e : lbK s q (lbC U j) = false := by unfold lbK lbC; simp [z.1, z.2]
      rw [if_pos z, ih (j + 1) m U (by omega), List.filter_cons_of_neg (by rw [e]; decide)]
    · have e : lbK s q (lbC U j) = true := by
        unfold lbK lbC
        simp only [Bool.not_eq_true', Bool.and_eq_false_iff, decide_eq_false_iff_not]
        by_cases z4 : U 4 j = s
        · exact Or.inr (fun q5 => z ⟨z4, q5⟩)
        · exact Or.inl z4
      rw [if_neg z, ih (j + 1) (m + 1) (lbMv U m j) (by omega), List.filter_cons_of_pos e, rg9_e, Nat.zero_add, lbMv_at, if_pos rfl]
      rw [rg9_cong (f := lbC (lbMv U m j)) (g := lbC U) (m := m) (j := 0) (fun i _ hi => by rw [lbMv_at, if_neg (by omega)])]
      rw [rg9_cong (f := lbC (lbMv U m j)) (g := lbC U) (m := n9) (j := j + 1) (fun i hi _ => by rw [lbMv_at, if_neg (by omega)])]
      rw [List.append_assoc]; rfl
theorem shV_lb {X : Nat → Nat → Int32} {i m k : Nat} : lbR (shV X i m) k = if i ≤ k ∧ k < m then lbR X (k + 1) else lbR X k := by
  unfold lbR
  rw [shV_at (by decide), shV_at (by decide), shV_at (by decide), shV_at (by decide), shV_at (by decide)]
  unfold shf
  split <;> rfl
theorem drp_list (s t : Int32) : ∀ (i : Nat) (z : Nat × (Nat → Nat → Int32)), i ≤ z.1 → rg9 (lbR (LX6_drp s t i z).2) 0 (LX6_drp s t i z).1 = (rg9 (lbR z.2) 0 i).filter (lbK s t) ++ rg9 (lbR z.2) i (z.1 - i) := by
  intro i
  induction i with
  | zero => intro z _; rw [LX6_drp, rg9_0, List.filter_nil, List.nil_append, Nat.sub_zero]
  | succ i ih =>
    intro z hi
    rw [LX6_drp, rg9_e, Nat.zero_add, List.filter_append]
    have keep : lbK s t (lbR z.2 i) = true → rg9 (lbR z.2) i (z.1 - i) = [lbR z.2 i].filter (lbK s t) ++ rg9 (lbR z.2) (i + 1) (z.1 - (i + 1)) := fun e => by
      rw [show z.1 - i = (z.1 - (i + 1)) + 1 by omega, rg9_s, List.filter_cons_of_pos e, List.filter_nil]; rfl
    by_cases z4 : z.2 20 i = s
    · rw [if_pos z4]
      by_cases z5 : z.2 21 i = t
      · have e : lbK s t (lbR z.2 i) = false := by unfold lbK lbR; simp [z4, z5]
        rw [if_pos z5, ih _ (by show i ≤ z.1 - 1; omega), List.filter_cons_of_neg (by rw [e]; decide), List.filter_nil, List.append_nil]
        show (rg9 (lbR (shV z.2 i (z.1 - 1))) 0 i).filter (lbK s t) ++ rg9 (lbR (shV z.2 i (z.1 - 1))) i (z.1 - 1 - i) = _
        rw [rg9_cong (f := lbR (shV z.2 i (z.1 - 1))) (g := lbR z.2) (m := i) (j := 0) (fun k _ hk => by rw [shV_lb, if_neg (by omega)])]
        congr 1
        rw [show z.1 - 1 - i = z.1 - (i + 1) by omega]
        have sh : ∀ (m a : Nat), i ≤ a → a + m ≤ z.1 - 1 → rg9 (lbR (shV z.2 i (z.1 - 1))) a m = rg9 (lbR z.2) (a + 1) m := by
          intro m
          induction m with
          | zero => intro a _ _; rfl
          | succ m ihm =>
            intro a h1 h2
            rw [rg9_s, rg9_s, shV_lb, if_pos ⟨h1, by omega⟩, ihm (a + 1) (by omega) (by omega)]
        exact sh _ i (Nat.le_refl _) (by omega)
      · have e : lbK s t (lbR z.2 i) = true := by unfold lbK lbR; simp [z5]
        rw [if_neg z5, ih z (by omega), keep e, List.append_assoc]
    · have e : lbK s t (lbR z.2 i) = true := by unfold lbK lbR; simp [z4]
      rw [if_neg z4, ih z (by omega), keep e, List.append_assoc]
theorem drp_lo (s t : Int32) : ∀ (i : Nat) (z : Nat × (Nat → Nat → Int32)) (k : Nat), ¬ (17 ≤ k ∧ k ≤ 21) → (LX6_drp s t i z).2 k = z.2 k := by
  intro i
  induction i with
  | zero => intro z k _; rw [LX6_drp]
  | succ i ih =>
    intro z k hk
    rw [LX6_drp, ih _ k hk]
    split
    · split
      · show shV z.2 i (z.1 - 1) k = z.2 k
        unfold shV; rw [if_neg hk]
      · rfl
    · rfl
section ZU
variable {cn rn Ln : Nat} {p : xPv} {n : Int32} {U : Nat → Nat → Int32} {N : Nat} {I : Nat → xSi} {V : Nat → Nat → Nat → Int32} {J : xMi} {X : Nat → Nat → Int32}
/-- labels of a point that is gone: class and reference have the same left -/
theorem z_drp (h : zRel0 cn rn Ln p n U N I V J X) (s q : Int32) {Y : Nat → Nat → Int32} (hY : ∀ k, 17 ≤ k → k ≤ 21 → Y k = X k) : (LX6_drp s q Ln (Ln, Y)).1 = (LX0_rm s q Ln 0 0 U).1 ∧ (LX0_rm s q Ln 0 0 U).1 ≤ Ln ∧ ∀ i, i < (LX0_rm s q Ln 0 0 U).1 → ((LX0_rm s q Ln 0 0 U).2 1 i = (LX6_drp s q Ln (Ln, Y)).2 17 i ∧ (LX0_rm s q Ln 0 0 U).2 2 i = (LX6_drp s q Ln (Ln, Y)).2 18 i ∧ (LX0_rm s q Ln 0 0 U).2 3 i = (LX6_drp s q Ln (Ln, Y)).2 19 i ∧ (LX0_rm s q Ln 0 0 U).2 4 i = (LX6_drp s q Ln (Ln, Y)).2 20 i ∧ (LX0_rm s q Ln 0 0 U).2 5 i = (LX6_drp s q Ln (Ln, Y)).2 21 i) ∧ (0 ≤ ((LX0_rm s q Ln 0 0 U).2 1 i).toInt ∧ ((LX0_rm s q Ln 0 0 U).2 1 i).toInt ≤ 100) ∧ (0 ≤ ((LX0_rm s q Ln 0 0 U).2 3 i).toInt ∧ ((LX0_rm s q Ln 0 0 U).2 3 i).toInt ≤ 100) := by
  have e1 := rm_list s q Ln 0 0 U (Nat.le_refl _)
  have e2 := drp_list s q Ln (Ln, Y) (Nat.le_refl _)
  rw [rg9_0, List.nil_append] at e1
  have e2 : rg9 (lbR (LX6_drp s q Ln (Ln, Y)).2) 0 (LX6_drp s q Ln (Ln, Y)).1 = (rg9 (lbR Y) 0 Ln).filter (lbK s q) ++ rg9 (lbR Y) Ln (Ln - Ln) := e2
  rw [Nat.sub_self, rg9_0, List.append_nil] at e2
  have e0 : rg9 (lbC U) 0 Ln = rg9 (lbR Y) 0 Ln := rg9_cong (fun i _ hi => by
    have lb := (h.2.2.2.2.2 i (by omega)).1
    unfold lbC lbR
    rw [hY 17 (by decide) (by decide), hY 18 (by decide) (by decide), hY 19 (by decide) (by decide), hY 20 (by decide) (by decide), hY 21 (by decide) (by decide), lb.1, lb.2.1, lb.2.2.1, lb.2.2.2.1, lb.2.2.2.2])
  rw [e0, ← e2] at e1
  have el : (LX0_rm s q Ln 0 0 U).1 = (LX6_drp s q Ln (Ln, Y)).1 := by
    have := congrArg List.length e1
    rw [rg9_len, rg9_len] at this; exact this
  have ll : (LX0_rm s q Ln 0 0 U).1 ≤ Ln := by
    have a := congrArg List.length e2
    rw [rg9_len] at a
    have b := List.length_filter_le (lbK s q) (rg9 (lbR Y) 0 Ln)
    rw [rg9_len] at b
    omega
  refine ⟨el.symm, ll, fun i hi => ?_⟩
  have g1 := rg9_at (f := lbC (LX0_rm s q Ln 0 0 U).2) hi
  have g2 := rg9_at (f := lbR (LX6_drp s q Ln (Ln, Y)).2) (m := (LX6_drp s q Ln (Ln, Y)).1) (i := i) (by omega)
  have mem : lbC (LX0_rm s q Ln 0 0 U).2 i ∈ (rg9 (lbC U) 0 Ln).filter (lbK s q) := by
    have := List.mem_of_getElem? g1
    rw [e1, e2, ← e0] at this
    exact this
  rw [e1, g2] at g1
  have g := Option.some.inj g1
  unfold lbC lbR at g
  simp only [Prod.mk.injEq] at g
  refine ⟨⟨g.1.symm, g.2.1.symm, g.2.2.1.symm, g.2.2.2.1.symm, g.2.2.2.2.symm⟩, ?_⟩
  have m2 := (List.mem_filter.mp mem).1
  unfold rg9 at m2
  obtain ⟨a, ha, ea⟩ := List.mem_map.mp m2
  have ha2 : a < Ln := by have := List.mem_range'_1.mp ha; omega
  have lb := (h.2.2.2.2.2 a ha2).2
  unfold lbC at ea
  simp only [Prod.mk.injEq] at ea
  rw [← ea.1, ← ea.2.2.1]
  exact lb
end ZU
