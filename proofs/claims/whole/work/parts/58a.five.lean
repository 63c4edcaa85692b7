/-! PURE: five -/
/-- how many of the first n lie below h -/
def ctL (f : Nat → Int32) (h : Int) : Nat → Nat
  | 0 => 0
  | n + 1 => ctL f h n + (if (f n).toInt < h then 1 else 0)
theorem ctL_cong {f g : Nat → Int32} {h : Int} : ∀ {n : Nat}, (∀ i, i < n → f i = g i) → ctL f h n = ctL g h n
  | 0, _ => rfl
  | n + 1, e => by rw [ctL, ctL, ctL_cong (fun i hi => e i (by omega)), e n (by omega)]
def sor9 (f : Nat → Int32) (n : Nat) : Prop := ∀ i j, i < j → j < n → (f i).toInt ≤ (f j).toInt
/-- insertion -/
theorem mins_spec (v : Int32) : ∀ (n : Nat) (f : Nat → Int32), sor9 f n → (∀ h, ctL (mins v n f) h (n + 1) = ctL f h n + (if v.toInt < h then 1 else 0)) ∧ sor9 (mins v n f) (n + 1) ∧ (∀ i, n < i → mins v n f i = f i) ∧ (∀ i, i < n + 1 → ((mins v n f i).toInt ≤ v.toInt ∨ ∃ j, j < n ∧ mins v n f i = f j) ∧ (mins v n f i = v ∨ ∃ j, j < n ∧ mins v n f i = f j))
  | 0, f, _ => by
    refine ⟨fun h => ?_, fun i j hi hj => by omega, fun i hi => ?_, fun i hi => ?_⟩
    · rw [mins, ctL, ctL, ctL, pk_us]
    · rw [mins, pk_un (by omega)]
    · have : i = 0 := by omega
      subst this
      rw [mins, pk_us]; exact ⟨Or.inl (Int.le_refl _), Or.inl rfl⟩
  | n + 1, f, hs => by
    rw [mins]
    by_cases hv : f n ≤ v
    · rw [if_pos hv]
      rw [fa_le] at hv
      refine ⟨fun h => ?_, fun i j hi hj => ?_, fun i hi => pk_un (by omega), fun i hi => ?_⟩
      · rw [ctL, pk_us, ctL_cong (g := f) (fun i hi => pk_un (by omega))]
      · by_cases ej : j = n + 1
        · subst ej
          rw [pk_us, pk_un (by omega)]
          by_cases ei : i = n
          · rw [ei]; exact hv
          · exact Int.le_trans (hs i n (by omega) (by omega)) hv
        · rw [pk_un ej, pk_un (by omega)]; exact hs i j hi (by omega)
      · by_cases ei : i = n + 1
        · rw [ei, pk_us]; exact ⟨Or.inl (Int.le_refl _), Or.inl rfl⟩
        · rw [pk_un ei]; exact ⟨Or.inr ⟨i, by omega, rfl⟩, Or.inr ⟨i, by omega, rfl⟩⟩
    · rw [if_neg hv]
      rw [fa_le] at hv
      have hs' : sor9 (upd f (n + 1) (f n)) n := fun i j hi hj => by rw [pk_un (by omega), pk_un (by omega)]; exact hs i j hi (by omega)
      obtain ⟨h1, h2, h3, h4⟩ := mins_spec v n (upd f (n + 1) (f n)) hs'
      have e1 : mins v n (upd f (n + 1) (f n)) (n + 1) = f n := by rw [h3 _ (by omega), pk_us]
      refine ⟨fun h => ?_, fun i j hi hj => ?_, fun i hi => ?_, fun i hi => ?_⟩
      · rw [ctL, h1 h, e1, ctL_cong (f := upd f (n + 1) (f n)) (g := f) (fun i hi => pk_un (by omega)), ctL]; omega
      · by_cases ej : j = n + 1
        · subst ej
          rw [e1]
          rcases (h4 i (by omega)).1 with q | ⟨j, hj, q⟩
          · omega
          · rw [q, pk_un (by omega)]
            exact hs j n (by omega) (by omega)
        · exact h2 i j hi (by omega)
      · rw [h3 i (by omega), pk_un (by omega)]
      · by_cases ei : i = n + 1
        · rw [ei, e1]; exact ⟨Or.inr ⟨n, by omega, rfl⟩, Or.inr ⟨n, by omega, rfl⟩⟩
        · obtain ⟨a, b⟩ := h4 i (by omega)
          constructor
          · rcases a with q | ⟨j, hj, q⟩
            · exact Or.inl q
            · exact Or.inr ⟨j, by omega, by rw [q, pk_un (by omega)]⟩
          · rcases b with q | ⟨j, hj, q⟩
            · exact Or.inl q
            · exact Or.inr ⟨j, by omega, by rw [q, pk_un (by omega)]⟩
/-- below a value of a sorted row -/
theorem sor_ct {f : Nat → Int32} {h : Int} : ∀ {n : Nat}, sor9 f n → ∀ r, r < n → ((f r).toInt < h ↔ r < ctL f h n)
  | 0, _, r, hr => absurd hr (Nat.not_lt_zero r)
  | n + 1, hs, r, hr => by
    have hs' : sor9 f n := fun i j hi hj => hs i j hi (by omega)
    have all : (f n).toInt < h → ctL f h n = n := by
      intro z
      have key : ∀ m, m ≤ n → ctL f h m = m := by
        intro m
        induction m with
        | zero => intro _; rfl
        | succ m ih =>
          intro hm
          rw [ctL, ih (by omega), if_pos]
          have : (f m).toInt ≤ (f n).toInt := hs m n (by omega) (by omega)
          omega
      exact key n (Nat.le_refl _)
    have le : ∀ m, ctL f h m ≤ m := by
      intro m
      induction m with
      | zero => exact Nat.le_refl _
      | succ m ih => rw [ctL]; split <;> omega
    rw [ctL]
    by_cases e : r = n
    · subst e
      by_cases z : (f r).toInt < h
      · rw [if_pos z, all z]; exact ⟨fun _ => by omega, fun _ => z⟩
      · rw [if_neg z]; have := le r; exact ⟨fun q => absurd q z, fun q => by omega⟩
    · have ih := sor_ct (h := h) hs' r (by omega)
      by_cases z : (f n).toInt < h
      · rw [if_pos z, all z]
        have : (f r).toInt ≤ (f n).toInt := hs r n (by omega) (by omega)
        exact ⟨fun _ => by omega, fun _ => by omega⟩
      · rw [if_neg z, Nat.add_zero]; exact ih
section ZF
variable {cn rn Ln : Nat} {p : xPv} {n : Int32} {U : Nat → Nat → Int32} {N : Nat} {I : Nat → xSi} {V : Nat → Nat → Nat → Int32} {J : xMi} {X : Nat → Nat → Int32}
/-- the points' heights below h, among the first m -/
def ptL (A : xSi) (W : Nat → Nat → Int32) (h : Int) : Nat → Nat → Nat
  | 0, _ => 0
  | m + 1, j => (if FX3_isPoint A W (nI j) = 0 then 0 else if (W 2 j).toInt < h then 1 else 0) + ptL A W h m (j + 1)
theorem ptL_le {A : xSi} {W : Nat → Nat → Int32} {h : Int} : ∀ (m j : Nat), ptL A W h m j ≤ m
  | 0, _ => Nat.le_refl _
  | m + 1, j => by
    have := ptL_le (A := A) (W := W) (h := h) m (j + 1)
    rw [ptL]; split
    · omega
    · split <;> omega
theorem z_lower {A : xSi} {W : Nat → Nat → Int32} {hh : Int32} : ∀ (m j a : Nat), j + m < 2 ^ 31 → LX3_lower A W hh m j (nI a) = nI (a + ptL A W hh.toInt m j) := by
  intro m
  induction m with
  | zero => intro j a _; rw [LX3_lower, ptL]; rfl
  | succ m ih =>
    intro j a hb
    rw [LX3_lower, ptL, nI_clamp (by omega)]
    by_cases z : FX3_isPoint A W (nI j) = 0
    · rw [if_pos z, if_pos z, ih (j + 1) a (by omega), Nat.zero_add]
    · rw [if_neg z, if_neg z]
      by_cases z2 : hh ≤ W 2 j
      · rw [if_pos z2, ih (j + 1) a (by omega), if_neg (by rw [fa_le] at z2; omega), Nat.zero_add]
      · rw [if_neg z2, nI_1, ih (j + 1) (a + 1) (by omega), if_pos (by rw [fa_le] at z2; omega)]
        congr 1; omega
/-- the reference's sorting -/
theorem z_fiv (h : zRel0 cn rn Ln p n U N I V J X) {k : Nat} (hk : k < N) : ∀ (n9 j : Nat) (z : Nat × (Nat → Int32)), j + n9 = (X 11 k).toNatClampNeg → sor9 z.2 z.1 → sor9 (LX6_fiv X k n9 j z).2 (LX6_fiv X k n9 j z).1 ∧ (∀ h9, ctL (LX6_fiv X k n9 j z).2 h9 (LX6_fiv X k n9 j z).1 = ctL z.2 h9 z.1 + ptL (I k) (V k) h9 n9 j) ∧ (∀ i, i < (LX6_fiv X k n9 j z).1 → (∃ i', i' < z.1 ∧ (LX6_fiv X k n9 j z).2 i = z.2 i') ∨ ∃ t, j ≤ t ∧ t < j + n9 ∧ FX3_isPoint (I k) (V k) (nI t) = 1 ∧ (LX6_fiv X k n9 j z).2 i = V k 2 t) ∧ (∀ a, LX3_points (I k) (V k) n9 j (nI a) = nI (a + ((LX6_fiv X k n9 j z).1 - z.1))) ∧ z.1 ≤ (LX6_fiv X k n9 j z).1 ∧ (LX6_fiv X k n9 j z).1 ≤ z.1 + n9 := by
  have s := h.sz hk
  intro n9
  induction n9 with
  | zero =>
    intro j z _ hs
    rw [LX6_fiv]
    exact ⟨hs, fun h9 => by rw [ptL]; rfl, fun i hi => Or.inl ⟨i, hi, rfl⟩, fun a => by rw [LX3_points]; congr 1; omega, Nat.le_refl _, Nat.le_refl _⟩
  | succ n9 ih =>
    intro j z hj hs
    have hi' : j < (X 11 k).toNatClampNeg := by omega
    have e := ((h.2.2.2.2.1 k hk).2.2.2 j hi').1
    have ep := z_pts h hk hi'
    rw [LX6_fiv]
    by_cases hg : X 15 (24 * k + j) = 0
    · rw [if_pos hg] at ep ⊢
      have ms := mins_spec (X 13 (24 * k + j)) z.1 z.2 hs
      obtain ⟨a1, a2, a3, a4, a5, a6⟩ := ih (j + 1) (z.1 + 1, mins (X 13 (24 * k + j)) z.1 z.2) (by omega) ms.2.1
      have b5 : z.1 + 1 ≤ (LX6_fiv X k n9 (j + 1) (z.1 + 1, mins (X 13 (24 * k + j)) z.1 z.2)).1 := a5
      have b6 : (LX6_fiv X k n9 (j + 1) (z.1 + 1, mins (X 13 (24 * k + j)) z.1 z.2)).1 ≤ z.1 + 1 + n9 := a6
      refine ⟨a1, fun h9 => ?_, fun i hi => ?_, fun a => ?_, by omega, by omega⟩
      · rw [a2 h9, ptL, if_neg (by rw [ep]; decide), e.2.1]
        have := ms.1 h9
        show ctL (mins (X 13 (24 * k + j)) z.1 z.2) h9 (z.1 + 1) + _ = _
        rw [this]; omega
      · rcases a3 i hi with ⟨i', q1, q2⟩ | ⟨t, q1, q2, q3, q4⟩
        · rcases (ms.2.2.2 i' q1).2 with q | ⟨j', q5, q6⟩
          · right
            refine ⟨j, Nat.le_refl _, by omega, ep, ?_⟩
            rw [q2, e.2.1]; exact q
          · left; exact ⟨j', q5, by rw [q2]; exact q6⟩
        · right; exact ⟨t, by omega, by omega, q3, q4⟩
      · rw [LX3_points, ep, if_neg (by decide), nI_1, a4 (a + 1)]
        congr 1
        show a + 1 + (_ - (z.1 + 1)) = _
        omega
    · rw [if_neg hg] at ep ⊢
      obtain ⟨a1, a2, a3, a4, a5, a6⟩ := ih (j + 1) z (by omega) hs
      refine ⟨a1, fun h9 => ?_, fun i hi => ?_, fun a => ?_, a5, by omega⟩
      · rw [a2 h9, ptL, if_pos ep]; omega
      · rcases a3 i hi with q | ⟨t, q1, q2, q3, q4⟩
        · exact Or.inl q
        · exact Or.inr ⟨t, by omega, by omega, q3, q4⟩
      · rw [LX3_points, if_pos ep, a4 a]
/-- the class's search finds what stands at a rank -/
theorem z_rank (h : zRel0 cn rn Ln p n U N I V J X) {k : Nat} (hk : k < N) {f : Nat → Int32} {m r : Nat} (hs : sor9 f m) (hr : r < m) (hm : m ≤ 24) (hc : ∀ h9, ctL f h9 m = ptL (I k) (V k) h9 (X 11 k).toNatClampNeg 0) : ∀ (n9 j : Nat), j + n9 = (X 11 k).toNatClampNeg → (∃ t, j ≤ t ∧ t < j + n9 ∧ FX3_isPoint (I k) (V k) (nI t) = 1 ∧ f r = V k 2 t) → LX3_heightAtRank (I k) (V k) (nI r) n9 j = f r := by
  have s := h.sz hk
  have ez : (I k).2.2.2.1 = X 11 k := (h.2.2.2.2.1 k hk).1.2.2.2
  have low : ∀ hh : Int32, FX3_lower (I k) (V k) hh = nI (ctL f hh.toInt m) := fun hh => by
    unfold FX3_lower
    rw [ez, hc]
    have := z_lower (A := I k) (W := V k) (hh := hh) (X 11 k).toNatClampNeg 0 0 (by omega)
    rw [show (0 : Int32) = nI 0 from rfl, this, Nat.zero_add]
  have cle : ∀ h9, ctL f h9 m ≤ 24 := fun h9 => by rw [hc]; have := ptL_le (A := I k) (W := V k) (h := h9) (X 11 k).toNatClampNeg 0; omega
  intro n9
  induction n9 with
  | zero => intro j _ ⟨t, a, b, _⟩; omega
  | succ n9 ih =>
    intro j hj ht
    have hi' : j < (X 11 k).toNatClampNeg := by omega
    obtain ⟨-, b1, b2, b3⟩ := (h.2.2.2.2.1 k hk).2.2.2 j hi'
    have e1 : (V k 2 j + 1).toInt = (V k 2 j).toInt + 1 := by rw [fb_addI] <;> rw [zi1] <;> omega
    rw [LX3_heightAtRank, nI_clamp (by omega), low, low, e1]
    have rest : (¬ (FX3_isPoint (I k) (V k) (nI j) = 1 ∧ f r = V k 2 j)) → LX3_heightAtRank (I k) (V k) (nI r) n9 (j + 1) = f r := fun q => by
      obtain ⟨t, t1, t2, t3, t4⟩ := ht
      refine ih (j + 1) (by omega) ⟨t, ?_, by omega, t3, t4⟩
      by_cases e : t = j
      · subst e; exact absurd ⟨t3, t4⟩ q
      · omega
    have c1 := cle (V k 2 j).toInt
    have c2 := cle ((V k 2 j).toInt + 1)
    have s1 := sor_ct (h := (V k 2 j).toInt) hs r hr
    have s2 := sor_ct (h := (V k 2 j).toInt + 1) hs r hr
    by_cases z : FX3_isPoint (I k) (V k) (nI j) = 0
    · rw [if_pos z]
      exact rest (fun q => by rw [z] at q; exact absurd q.1 (by decide))
    · rw [if_neg z]
      by_cases z1 : nI r < nI (ctL f (V k 2 j).toInt m)
      · rw [if_pos z1]
        rw [nI_ltI (by omega) (by omega)] at z1
        have := s1.mpr z1
        exact rest (fun q => by rw [q.2] at this; omega)
      · rw [if_neg z1]
        rw [nI_ltI (by omega) (by omega)] at z1
        by_cases z2 : nI (ctL f ((V k 2 j).toInt + 1) m) ≤ nI r
        · rw [if_pos z2]
          rw [nI_leI (by omega) (by omega)] at z2
          have : ¬ (f r).toInt < (V k 2 j).toInt + 1 := fun q => by have := s2.mp q; omega
          exact rest (fun q => by rw [q.2] at this; omega)
        · rw [if_neg z2]
          rw [nI_leI (by omega) (by omega)] at z2
          have a1 : ¬ (f r).toInt < (V k 2 j).toInt := fun q => z1 (s1.mp q)
          have a2 := s2.mpr (by omega)
          exact zinj (by omega)
theorem z_five (h : zRel0 cn rn Ln p n U N I V J X) {k : Nat} (hk : k < N) {w : Int32} (hw : ¬ FX6_in w 0 4 = 0) : FX6_five X k w = (if FX3_points (I k) (V k) = 0 then (-2000000000) else FX3_heightAtRank (I k) (V k) ((w * (FX3_points (I k) (V k) - 1)) / 4)) := by
  have s := h.sz hk
  have ez : (I k).2.2.2.1 = X 11 k := (h.2.2.2.2.1 k hk).1.2.2.2
  obtain ⟨a1, a2, a3, a4, a5, a6⟩ := z_fiv h hk (X 11 k).toNatClampNeg 0 (0, X 25) (by omega) (fun i j _ hj => absurd hj (Nat.not_lt_zero j))
  have ef : LX6_fiv X k (X 11 k).toNatClampNeg 0 (0, X 25) = FX6_fiv X k := rfl
  rw [ef] at a1 a2 a3 a4 a5 a6
  have hm : (FX6_fiv X k).1 ≤ 24 := by have : (FX6_fiv X k).1 ≤ 0 + (X 11 k).toNatClampNeg := a6; omega
  have ep : FX3_points (I k) (V k) = nI (FX6_fiv X k).1 := by
    unfold FX3_points
    rw [ez]
    have := a4 0
    rw [show (0 : Int32) = nI 0 from rfl, this]
    congr 1
    show 0 + ((FX6_fiv X k).1 - 0) = _
    omega
  unfold FX6_five
  rw [ep]
  by_cases z : nI (FX6_fiv X k).1 = 0
  · rw [if_pos z, if_pos z]
  · rw [if_neg z, if_neg z]
    have hw5 : vp_in w 5 := in_vp hw (by decide)
    obtain ⟨u, hu, rfl⟩ := vp_in_of hw5 (by decide)
    have m0 : (FX6_fiv X k).1 ≠ 0 := fun q => z (by rw [q]; rfl)
    have em : nI (FX6_fiv X k).1 - 1 = nI ((FX6_fiv X k).1 - 1) := pk_sub (a := (FX6_fiv X k).1) (b := 1) (by omega)
    have bu : u * ((FX6_fiv X k).1 - 1) ≤ 4 * ((FX6_fiv X k).1 - 1) := Nat.mul_le_mul_right _ (by omega)
    have er : (nI u * (nI (FX6_fiv X k).1 - 1)) / 4 = nI (u * ((FX6_fiv X k).1 - 1) / 4) := by
      rw [em, pk_mul]; exact pk_div (d := 4) (by omega) (by omega) (by omega)
    rw [er, nI_clamp (by omega)]
    have hr : u * ((FX6_fiv X k).1 - 1) / 4 < (FX6_fiv X k).1 := by omega
    unfold FX3_heightAtRank
    rw [ez]
    refine (z_rank h hk a1 hr hm (fun h9 => ?_) (X 11 k).toNatClampNeg 0 (by omega) ?_).symm
    · rw [a2 h9]
      show ctL (X 25) h9 0 + _ = _
      rw [ctL, Nat.zero_add]
    · rcases a3 _ hr with ⟨i', q, _⟩ | q
      · exact absurd q (Nat.not_lt_zero i')
      · exact q
end ZF
