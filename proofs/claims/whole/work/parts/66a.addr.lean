/-! BOTH: where the cells lie; series -/
/-- all cells of the two; those that are there: zRl -/
abbrev zIx : Type := Unit ⊕ Unit ⊕ Unit ⊕ Unit ⊕ Unit ⊕ Unit ⊕ Nat ⊕ (Nat × Nat) ⊕ Nat
abbrev i9sc : zIx := .inl ()
abbrev i9pg : zIx := .inr (.inl ())
abbrev i9sx : zIx := .inr (.inr (.inl ()))
abbrev i9sy : zIx := .inr (.inr (.inr (.inl ())))
abbrev i9al : zIx := .inr (.inr (.inr (.inr (.inl ()))))
abbrev i9ed : zIx := .inr (.inr (.inr (.inr (.inr (.inl ())))))
abbrev i9C (i : Nat) : zIx := .inr (.inr (.inr (.inr (.inr (.inr (.inl i))))))
abbrev i9B (k j : Nat) : zIx := .inr (.inr (.inr (.inr (.inr (.inr (.inr (.inl (k, j))))))))
abbrev i9A (k : Nat) : zIx := .inr (.inr (.inr (.inr (.inr (.inr (.inr (.inr k)))))))
def zAd (sc pg sx sy al ed : Nat) (C : Nat → Nat) (B : Nat → Nat → Nat) (A : Nat → Nat) : zIx → Nat
  | .inl _ => sc
  | .inr (.inl _) => pg
  | .inr (.inr (.inl _)) => sx
  | .inr (.inr (.inr (.inl _))) => sy
  | .inr (.inr (.inr (.inr (.inl _)))) => al
  | .inr (.inr (.inr (.inr (.inr (.inl _))))) => ed
  | .inr (.inr (.inr (.inr (.inr (.inr (.inl i)))))) => C i
  | .inr (.inr (.inr (.inr (.inr (.inr (.inr (.inl (k, j)))))))) => B k j
  | .inr (.inr (.inr (.inr (.inr (.inr (.inr (.inr k))))))) => A k
def zRl (N : Nat) : zIx → Prop
  | .inl _ => True
  | .inr (.inl _) => True
  | .inr (.inr (.inl _)) => True
  | .inr (.inr (.inr (.inl _))) => True
  | .inr (.inr (.inr (.inr (.inl _)))) => True
  | .inr (.inr (.inr (.inr (.inr (.inl _))))) => True
  | .inr (.inr (.inr (.inr (.inr (.inr (.inl i)))))) => i < 6
  | .inr (.inr (.inr (.inr (.inr (.inr (.inr (.inl (k, j)))))))) => k < N ∧ j < 8
  | .inr (.inr (.inr (.inr (.inr (.inr (.inr (.inr k))))))) => k = 0 ∨ xMn k ≠ 0
def pr9 (k j : Nat) : Nat := (k + j) * (k + j) + k
theorem pr9_lt {k j k' j' : Nat} (h : k + j < k' + j') : pr9 k j < pr9 k' j' := by
  unfold pr9
  have h1 : (k + j + 1) * (k + j + 1) ≤ (k' + j') * (k' + j') := Nat.mul_le_mul h h
  have h2 : (k + j + 1) * (k + j + 1) = (k + j) * (k + j) + (k + j) + (k + j) + 1 := by
    rw [Nat.add_mul, Nat.mul_add]; omega
  omega
theorem pr9_inj {k j k' j' : Nat} (h : pr9 k j = pr9 k' j') : k = k' ∧ j = j' := by
  rcases Nat.lt_trichotomy (k + j) (k' + j') with q | q | q
  · have := pr9_lt q; omega
  · unfold pr9 at h; rw [q] at h; omega
  · have := pr9_lt q; omega
def eC9 (M : Nat) (C : Nat → Nat) (i : Nat) : Nat := if i < 6 then C i else M + (3 * i + 1)
def eB9 (M N : Nat) (B : Nat → Nat → Nat) (k j : Nat) : Nat := if k < N ∧ j < 8 then B k j else M + 3 * pr9 k j
def eA9 (M : Nat) (A : Nat → Nat) (k : Nat) : Nat := if k = 0 ∨ xMn k ≠ 0 then A k else M + (3 * k + 2)
def zCo : zIx → Nat
  | .inl _ => 0
  | .inr (.inl _) => 0
  | .inr (.inr (.inl _)) => 0
  | .inr (.inr (.inr (.inl _))) => 0
  | .inr (.inr (.inr (.inr (.inl _)))) => 0
  | .inr (.inr (.inr (.inr (.inr (.inl _))))) => 0
  | .inr (.inr (.inr (.inr (.inr (.inr (.inl i)))))) => 3 * i + 1
  | .inr (.inr (.inr (.inr (.inr (.inr (.inr (.inl (k, j)))))))) => 3 * pr9 k j
  | .inr (.inr (.inr (.inr (.inr (.inr (.inr (.inr k))))))) => 3 * k + 2
section ZA
variable {G : xG} {sc pg sx sy al ed : Nat} {C : Nat → Nat} {B : Nat → Nat → Nat} {A : Nat → Nat} {N M : Nat} {h : xH}
theorem zAd_inj (hD : xDs sc pg sx sy al ed C B) (hA : ∀ i j : Nat, i ≠ j → A i ≠ A j) (hj : zDj sc pg sx sy al ed C B A) (a b : zIx) (e : zAd sc pg sx sy al ed C B A a = zAd sc pg sx sy al ed C B A b) : a = b := by
  obtain ⟨d1, d2, d3, d4, d5, d6, d7, d8, d9, d10⟩ := hD
  rcases a with _ | _ | _ | _ | _ | _ | i | ⟨k, j⟩ | m
  · rcases b with _ | _ | _ | _ | _ | _ | i9 | ⟨k9, j9⟩ | m9
    · rfl
    · have e : sc = pg := e; omega
    · have e : sc = sx := e; omega
    · have e : sc = sy := e; omega
    · have e : sc = al := e; omega
    · have e : sc = ed := e; omega
    · have e : sc = C i9 := e; have f := d5 i9; omega
    · have e : sc = B k9 j9 := e; have f := d3 k9 j9; omega
    · have e : sc = A m9 := e; have f := (hj m9).2.2; omega
  · rcases b with _ | _ | _ | _ | _ | _ | i9 | ⟨k9, j9⟩ | m9
    · have e : pg = sc := e; omega
    · rfl
    · have e : pg = sx := e; omega
    · have e : pg = sy := e; omega
    · have e : pg = al := e; omega
    · have e : pg = ed := e; omega
    · have e : pg = C i9 := e; have f := d5 i9; omega
    · have e : pg = B k9 j9 := e; have f := d3 k9 j9; omega
    · have e : pg = A m9 := e; have f := (hj m9).2.2; omega
  · rcases b with _ | _ | _ | _ | _ | _ | i9 | ⟨k9, j9⟩ | m9
    · have e : sx = sc := e; omega
    · have e : sx = pg := e; omega
    · rfl
    · have e : sx = sy := e; omega
    · have e : sx = al := e; omega
    · have e : sx = ed := e; omega
    · have e : sx = C i9 := e; have f := d5 i9; omega
    · have e : sx = B k9 j9 := e; have f := d3 k9 j9; omega
    · have e : sx = A m9 := e; have f := (hj m9).2.2; omega
  · rcases b with _ | _ | _ | _ | _ | _ | i9 | ⟨k9, j9⟩ | m9
    · have e : sy = sc := e; omega
    · have e : sy = pg := e; omega
    · have e : sy = sx := e; omega
    · rfl
    · have e : sy = al := e; omega
    · have e : sy = ed := e; omega
    · have e : sy = C i9 := e; have f := d5 i9; omega
    · have e : sy = B k9 j9 := e; have f := d3 k9 j9; omega
    · have e : sy = A m9 := e; have f := (hj m9).2.2; omega
  · rcases b with _ | _ | _ | _ | _ | _ | i9 | ⟨k9, j9⟩ | m9
    · have e : al = sc := e; omega
    · have e : al = pg := e; omega
    · have e : al = sx := e; omega
    · have e : al = sy := e; omega
    · rfl
    · have e : al = ed := e; omega
    · have e : al = C i9 := e; have f := d5 i9; omega
    · have e : al = B k9 j9 := e; have f := d3 k9 j9; omega
    · have e : al = A m9 := e; have f := (hj m9).2.2; omega
  · rcases b with _ | _ | _ | _ | _ | _ | i9 | ⟨k9, j9⟩ | m9
    · have e : ed = sc := e; omega
    · have e : ed = pg := e; omega
    · have e : ed = sx := e; omega
    · have e : ed = sy := e; omega
    · have e : ed = al := e; omega
    · rfl
    · have e : ed = C i9 := e; have f := d5 i9; omega
    · have e : ed = B k9 j9 := e; have f := d3 k9 j9; omega
    · have e : ed = A m9 := e; have f := (hj m9).2.2; omega
  · rcases b with _ | _ | _ | _ | _ | _ | i9 | ⟨k9, j9⟩ | m9
    · have e : C i = sc := e; have f := d5 i; omega
    · have e : C i = pg := e; have f := d5 i; omega
    · have e : C i = sx := e; have f := d5 i; omega
    · have e : C i = sy := e; have f := d5 i; omega
    · have e : C i = al := e; have f := d5 i; omega
    · have e : C i = ed := e; have f := d5 i; omega
    · have e : C i = C i9 := e; have q : i = i9 := Classical.byContradiction fun q => d4 q e
      rw [q]
    · have e : C i = B k9 j9 := e; have f := d2 k9 j9 i; omega
    · have e : C i = A m9 := e; have f := (hj m9).2.1 i; omega
  · rcases b with _ | _ | _ | _ | _ | _ | i9 | ⟨k9, j9⟩ | m9
    · have e : B k j = sc := e; have f := d3 k j; omega
    · have e : B k j = pg := e; have f := d3 k j; omega
    · have e : B k j = sx := e; have f := d3 k j; omega
    · have e : B k j = sy := e; have f := d3 k j; omega
    · have e : B k j = al := e; have f := d3 k j; omega
    · have e : B k j = ed := e; have f := d3 k j; omega
    · have e : B k j = C i9 := e; have f := d2 k j i9; omega
    · have e : B k j = B k9 j9 := e; have q : k = k9 ∧ j = j9 := Classical.byContradiction fun q => d1 _ _ _ _ q e
      rw [q.1, q.2]
    · have e : B k j = A m9 := e; have f := (hj m9).1 k j; omega
  · rcases b with _ | _ | _ | _ | _ | _ | i9 | ⟨k9, j9⟩ | m9
    · have e : A m = sc := e; have f := (hj m).2.2; omega
    · have e : A m = pg := e; have f := (hj m).2.2; omega
    · have e : A m = sx := e; have f := (hj m).2.2; omega
    · have e : A m = sy := e; have f := (hj m).2.2; omega
    · have e : A m = al := e; have f := (hj m).2.2; omega
    · have e : A m = ed := e; have f := (hj m).2.2; omega
    · have e : A m = C i9 := e; have f := (hj m).2.1 i9; omega
    · have e : A m = B k9 j9 := e; have f := (hj m).1 k9 j9; omega
    · have e : A m = A m9 := e; have q : m = m9 := Classical.byContradiction fun q => hA _ _ q e
      rw [q]
theorem zE_eq (t : zIx) : (zRl N t → zAd sc pg sx sy al ed (eC9 M C) (eB9 M N B) (eA9 M A) t = zAd sc pg sx sy al ed C B A t) ∧ (¬ zRl N t → zAd sc pg sx sy al ed (eC9 M C) (eB9 M N B) (eA9 M A) t = M + zCo t) := by
  rcases t with _ | _ | _ | _ | _ | _ | i | ⟨k, j⟩ | m
  · exact ⟨fun _ => rfl, fun q => absurd trivial q⟩
  · exact ⟨fun _ => rfl, fun q => absurd trivial q⟩
  · exact ⟨fun _ => rfl, fun q => absurd trivial q⟩
  · exact ⟨fun _ => rfl, fun q => absurd trivial q⟩
  · exact ⟨fun _ => rfl, fun q => absurd trivial q⟩
  · exact ⟨fun _ => rfl, fun q => absurd trivial q⟩
  · exact ⟨fun q => if_pos q, fun q => if_neg q⟩
  · exact ⟨fun q => if_pos q, fun q => if_neg q⟩
  · exact ⟨fun q => if_pos q, fun q => if_neg q⟩
theorem zCo_inj {a b : zIx} (ha : ¬ zRl N a) (hb : ¬ zRl N b) (e : zCo a = zCo b) : a = b := by
  rcases a with _ | _ | _ | _ | _ | _ | i | ⟨k, j⟩ | m
  · exact absurd trivial ha
  · exact absurd trivial ha
  · exact absurd trivial ha
  · exact absurd trivial ha
  · exact absurd trivial ha
  · exact absurd trivial ha
  · rcases b with _ | _ | _ | _ | _ | _ | i9 | ⟨k9, j9⟩ | m9
    · exact absurd trivial hb
    · exact absurd trivial hb
    · exact absurd trivial hb
    · exact absurd trivial hb
    · exact absurd trivial hb
    · exact absurd trivial hb
    · have e : 3 * i + 1 = 3 * i9 + 1 := e; rw [show i = i9 by omega]
    · have e : 3 * i + 1 = 3 * pr9 k9 j9 := e; omega
    · have e : 3 * i + 1 = 3 * m9 + 2 := e; omega
  · rcases b with _ | _ | _ | _ | _ | _ | i9 | ⟨k9, j9⟩ | m9
    · exact absurd trivial hb
    · exact absurd trivial hb
    · exact absurd trivial hb
    · exact absurd trivial hb
    · exact absurd trivial hb
    · exact absurd trivial hb
    · have e : 3 * pr9 k j = 3 * i9 + 1 := e; omega
    · have e : 3 * pr9 k j = 3 * pr9 k9 j9 := e; have q := pr9_inj (show pr9 k j = pr9 k9 j9 by omega)
      rw [q.1, q.2]
    · have e : 3 * pr9 k j = 3 * m9 + 2 := e; omega
  · rcases b with _ | _ | _ | _ | _ | _ | i9 | ⟨k9, j9⟩ | m9
    · exact absurd trivial hb
    · exact absurd trivial hb
    · exact absurd trivial hb
    · exact absurd trivial hb
    · exact absurd trivial hb
    · exact absurd trivial hb
    · have e : 3 * m + 2 = 3 * i9 + 1 := e; omega
    · have e : 3 * m + 2 = 3 * pr9 k9 j9 := e; omega
    · have e : 3 * m + 2 = 3 * m9 + 2 := e; rw [show m = m9 by omega]
/-- what is apart where it is there, can be told apart everywhere -/
theorem z_ext (hlt : ∀ t, zRl N t → zAd sc pg sx sy al ed C B A t < M) (hin : ∀ a b, zRl N a → zRl N b → zAd sc pg sx sy al ed C B A a = zAd sc pg sx sy al ed C B A b → a = b) : xDs sc pg sx sy al ed (eC9 M C) (eB9 M N B) ∧ (∀ i j : Nat, i ≠ j → eA9 M A i ≠ eA9 M A j) ∧ zDj sc pg sx sy al ed (eC9 M C) (eB9 M N B) (eA9 M A) := by
  have inj : ∀ a b, zAd sc pg sx sy al ed (eC9 M C) (eB9 M N B) (eA9 M A) a = zAd sc pg sx sy al ed (eC9 M C) (eB9 M N B) (eA9 M A) b → a = b := by
    intro a b e
    have ea := zE_eq (sc := sc) (pg := pg) (sx := sx) (sy := sy) (al := al) (ed := ed) (C := C) (B := B) (A := A) (N := N) (M := M) a
    have eb := zE_eq (sc := sc) (pg := pg) (sx := sx) (sy := sy) (al := al) (ed := ed) (C := C) (B := B) (A := A) (N := N) (M := M) b
    by_cases qa : zRl N a
    · by_cases qb : zRl N b
      · rw [ea.1 qa, eb.1 qb] at e; exact hin a b qa qb e
      · rw [ea.1 qa, eb.2 qb] at e; have := hlt a qa; omega
    · by_cases qb : zRl N b
      · rw [ea.2 qa, eb.1 qb] at e; have := hlt b qb; omega
      · rw [ea.2 qa, eb.2 qb] at e; exact zCo_inj qa qb (by omega)
  have ne : ∀ a b, a ≠ b → zAd sc pg sx sy al ed (eC9 M C) (eB9 M N B) (eA9 M A) a ≠ zAd sc pg sx sy al ed (eC9 M C) (eB9 M N B) (eA9 M A) b := fun a b q e => q (inj a b e)
  refine ⟨⟨fun k j k' j' q => ne (i9B k j) (i9B k' j') (fun z => q ?_), fun k j i => ne (i9B k j) (i9C i) (fun z => nomatch z), fun k j => ⟨ne (i9B k j) i9sc (fun z => nomatch z), ne (i9B k j) i9pg (fun z => nomatch z), ne (i9B k j) i9sx (fun z => nomatch z), ne (i9B k j) i9sy (fun z => nomatch z), ne (i9B k j) i9al (fun z => nomatch z), ne (i9B k j) i9ed (fun z => nomatch z)⟩,
    fun {i j} q => ne (i9C i) (i9C j) (fun z => q ?_), fun i => ⟨ne (i9C i) i9sc (fun z => nomatch z), ne (i9C i) i9pg (fun z => nomatch z), ne (i9C i) i9sx (fun z => nomatch z), ne (i9C i) i9sy (fun z => nomatch z), ne (i9C i) i9al (fun z => nomatch z), ne (i9C i) i9ed (fun z => nomatch z)⟩,
    ⟨ne i9sc i9pg (fun z => nomatch z), ne i9sc i9sx (fun z => nomatch z), ne i9sc i9sy (fun z => nomatch z), ne i9sc i9al (fun z => nomatch z), ne i9sc i9ed (fun z => nomatch z)⟩, ⟨ne i9pg i9sx (fun z => nomatch z), ne i9pg i9sy (fun z => nomatch z), ne i9pg i9al (fun z => nomatch z), ne i9pg i9ed (fun z => nomatch z)⟩, ⟨ne i9sx i9sy (fun z => nomatch z), ne i9sx i9al (fun z => nomatch z), ne i9sx i9ed (fun z => nomatch z)⟩, ⟨ne i9sy i9al (fun z => nomatch z), ne i9sy i9ed (fun z => nomatch z)⟩, ne i9al i9ed (fun z => nomatch z)⟩,
    fun i j q => ne (i9A i) (i9A j) (fun z => q ?_), fun k => ⟨fun i j => ne (i9A k) (i9B i j) (fun z => nomatch z), fun i => ne (i9A k) (i9C i) (fun z => nomatch z), ne (i9A k) i9sc (fun z => nomatch z), ne (i9A k) i9pg (fun z => nomatch z), ne (i9A k) i9sx (fun z => nomatch z), ne (i9A k) i9sy (fun z => nomatch z), ne (i9A k) i9al (fun z => nomatch z), ne (i9A k) i9ed (fun z => nomatch z)⟩⟩
  · cases z; exact ⟨rfl, rfl⟩
  · cases z; rfl
  · cases z; rfl
theorem eC9_r {i : Nat} (hi : i < 6) : eC9 M C i = C i := if_pos hi
theorem eB9_r {k j : Nat} (hk : k < N) (hj : j < 8) : eB9 M N B k j = B k j := if_pos ⟨hk, hj⟩
theorem eA9_r {k : Nat} (hk : k = 0 ∨ xMn k ≠ 0) : eA9 M A k = A k := if_pos hk
theorem xCls.adr {p : xPv} {n : Int32} {U : Nat → Nat → Int32} {md : Int32} {I : Nat → xSi} {V : Nat → Nat → Nat → Int32} (hK : xCls G sc pg sx sy al ed C B p n U md N I V h) : xCls G sc pg sx sy al ed (eC9 M C) (eB9 M N B) p n U md N I V h := by
  obtain ⟨k1, k2, k3, k4, k5, k6, k7⟩ := hK
  refine ⟨?_, k2, ?_, k4, fun z => ?_, fun k hk => ?_, k7⟩
  · rw [eC9_r (by omega)]; exact k1
  · unfold xLab
    rw [eC9_r (show 0 < 6 by omega), eC9_r (show 1 < 6 by omega), eC9_r (show 2 < 6 by omega), eC9_r (show 3 < 6 by omega), eC9_r (show 4 < 6 by omega), eC9_r (show 5 < 6 by omega)]
    exact k3
  · rw [k5 z]
    have e : xSl (eB9 M N B) N = xSl B N := by
      funext k
      unfold xSl
      by_cases q : k < N
      · rw [if_pos q, if_pos q, eB9_r q (by omega)]
      · rw [if_neg q, if_neg q]
    rw [e]
  · unfold xSer
    rw [eB9_r hk (show 0 < 8 by omega), eB9_r hk (show 1 < 8 by omega), eB9_r hk (show 2 < 8 by omega), eB9_r hk (show 3 < 8 by omega), eB9_r hk (show 4 < 8 by omega), eB9_r hk (show 5 < 8 by omega), eB9_r hk (show 6 < 8 by omega), eB9_r hk (show 7 < 8 by omega)]
    have e : xSo (eB9 M N B k) pg (I k) = xSo (B k) pg (I k) := by
      unfold xSo
      rw [eB9_r hk (show 1 < 8 by omega), eB9_r hk (show 2 < 8 by omega), eB9_r hk (show 3 < 8 by omega), eB9_r hk (show 4 < 8 by omega), eB9_r hk (show 5 < 8 by omega)]
    rw [e]
    exact k6 k hk
theorem xMod.adr {J : xMi} {X : Nat → Nat → Int32} (hM : xMod G A J X h) : xMod G (eA9 M A) J X h := by
  refine ⟨?_, fun k hk => ?_⟩
  · rw [eA9_r (Or.inl rfl), hM.1]
    rfl
  · rw [eA9_r (Or.inr hk)]; exact hM.2 k hk
end ZA
