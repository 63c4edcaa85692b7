/-- the class's cells are apart -/
def xDs (sc pg sx sy al ed : Nat) (C : Nat → Nat) (B : Nat → Nat → Nat) : Prop :=
  (∀ k j k' j' : Nat, ¬ (k = k' ∧ j = j') → B k j ≠ B k' j') ∧ (∀ k j i : Nat, B k j ≠ C i) ∧ (∀ k j : Nat, B k j ≠ sc ∧ B k j ≠ pg ∧ B k j ≠ sx ∧ B k j ≠ sy ∧ B k j ≠ al ∧ B k j ≠ ed) ∧
  (∀ {i j : Nat}, i ≠ j → C i ≠ C j) ∧ (∀ i : Nat, C i ≠ sc ∧ C i ≠ pg ∧ C i ≠ sx ∧ C i ≠ sy ∧ C i ≠ al ∧ C i ≠ ed) ∧
  (sc ≠ pg ∧ sc ≠ sx ∧ sc ≠ sy ∧ sc ≠ al ∧ sc ≠ ed) ∧ (pg ≠ sx ∧ pg ≠ sy ∧ pg ≠ al ∧ pg ≠ ed) ∧ (sx ≠ sy ∧ sx ≠ al ∧ sx ≠ ed) ∧ (sy ≠ al ∧ sy ≠ ed) ∧ al ≠ ed
section XF
variable {G : xG} {sc pg sx sy al ed : Nat} {C : Nat → Nat} {B : Nat → Nat → Nat} {p : xPv} {n : Int32} {U : Nat → Nat → Int32} {md : Int32} {N : Nat} {I : Nat → xSi} {V : Nat → Nat → Nat → Int32} {h : xH}
theorem xPg.k (hP : xPg pg sx sy p h) {a : Nat} {c : va_E} (h1 : pg ≠ a) (h2 : sx ≠ a) (h3 : sy ≠ a) : xPg pg sx sy p (xup h a c) := ⟨xup_k h1 hP.1, xup_k h2 hP.2.1, xup_k h3 hP.2.2⟩
theorem xLab.k (hL : xLab G C n U h) {a : Nat} {c : va_E} (h1 : ∀ i, C i ≠ a) : xLab G C n U (xup h a c) := ⟨xup_k (h1 0) hL.1, xup_k (h1 1) hL.2.1, xup_k (h1 2) hL.2.2.1, xup_k (h1 3) hL.2.2.2.1, xup_k (h1 4) hL.2.2.2.2.1, xup_k (h1 5) hL.2.2.2.2.2⟩
theorem xSer.k {B : Nat → Nat} {I : xSi} {V : Nat → Nat → Int32} (hS : xSer G B pg I V h) {a : Nat} {c : va_E} (h1 : ∀ i, B i ≠ a) : xSer G B pg I V (xup h a c) := ⟨xup_k (h1 0) hS.1, xup_k (h1 1) hS.2.1, xup_k (h1 2) hS.2.2.1, xup_k (h1 3) hS.2.2.2.1, xup_k (h1 4) hS.2.2.2.2.1, xup_k (h1 5) hS.2.2.2.2.2.1, xup_k (h1 6) hS.2.2.2.2.2.2.1, xup_k (h1 7) hS.2.2.2.2.2.2.2⟩
/-- a heap that holds the class's cells as another does holds the class -/
theorem xCls.of (hK : xCls G sc pg sx sy al ed C B p n U md N I V h) {h' : xH} {I' : Nat → xSi} {V' : Nat → Nat → Nat → Int32} (e1 : ∀ a, (∀ k j, a ≠ B k j) → h' a = h a) (hD : xDs sc pg sx sy al ed C B) (hS : ∀ k, k < N → xSer G (B k) pg (I' k) (V' k) h') : xCls G sc pg sx sy al ed C B p n U md N I' V' h' := by
  obtain ⟨k1, k2, k3, k4, k5, k6, k7⟩ := hK
  obtain ⟨d1, d2, d3, d4, d5, d6, d7, d8, d9, d10⟩ := hD
  refine ⟨by rw [e1 _ (fun k j q => (d3 k j).1 q.symm)]; exact k1, ⟨by rw [e1 _ (fun k j q => (d3 k j).2.1 q.symm)]; exact k2.1, by rw [e1 _ (fun k j q => (d3 k j).2.2.1 q.symm)]; exact k2.2.1, by rw [e1 _ (fun k j q => (d3 k j).2.2.2.1 q.symm)]; exact k2.2.2⟩, ?_, by rw [e1 _ (fun k j q => (d3 k j).2.2.2.2.1 q.symm)]; exact k4, fun hN => by rw [e1 _ (fun k j q => (d3 k j).2.2.2.2.2 q.symm)]; exact k5 hN, hS, k7⟩
  have hc : ∀ i, h' (C i) = h (C i) := fun i => e1 _ (fun k j q => d2 k j i q.symm)
  exact ⟨by rw [hc]; exact k3.1, by rw [hc]; exact k3.2.1, by rw [hc]; exact k3.2.2.1, by rw [hc]; exact k3.2.2.2.1, by rw [hc]; exact k3.2.2.2.2.1, by rw [hc]; exact k3.2.2.2.2.2⟩
/-- one series changes -/
theorem xCls.ser (hK : xCls G sc pg sx sy al ed C B p n U md N I V h) (hD : xDs sc pg sx sy al ed C B) {h' : xH} {j : Nat} {I' : xSi} {V' : Nat → Nat → Int32} (e1 : ∀ a, (∀ i, a ≠ B j i) → h' a = h a) (hS : xSer G (B j) pg I' V' h') : xCls G sc pg sx sy al ed C B p n U md N (va_up I j I') (va_up V j V') h' := by
  refine hK.of (fun a ha => e1 a (fun i => ha j i)) hD (fun k hk => ?_)
  by_cases e : k = j
  · subst e
    simp only [va_up, if_true]
    exact hS
  · have h0 := hK.2.2.2.2.2.1 k hk
    have hq : ∀ i, h' (B k i) = h (B k i) := fun i => e1 _ (fun i' => hD.1 k i j i' (fun z => e z.1))
    simp only [va_up, if_neg e]
    exact ⟨by rw [hq]; exact h0.1, by rw [hq]; exact h0.2.1, by rw [hq]; exact h0.2.2.1, by rw [hq]; exact h0.2.2.2.1, by rw [hq]; exact h0.2.2.2.2.1, by rw [hq]; exact h0.2.2.2.2.2.1, by rw [hq]; exact h0.2.2.2.2.2.2.1, by rw [hq]; exact h0.2.2.2.2.2.2.2⟩
/-- a series of which the object, or one row, changes -/
theorem xSer.up0 {B : Nat → Nat} {I I' : xSi} {V : Nat → Nat → Int32} (hS : xSer G B pg I V h) (hB : ∀ {i j : Nat}, i ≠ j → B i ≠ B j) : xSer G B pg I' V (xup h (B 0) (xSo B pg I')) :=
  ⟨xup_s, xup_k (hB (by decide)) hS.2.1, xup_k (hB (by decide)) hS.2.2.1, xup_k (hB (by decide)) hS.2.2.2.1, xup_k (hB (by decide)) hS.2.2.2.2.1, xup_k (hB (by decide)) hS.2.2.2.2.2.1, xup_k (hB (by decide)) hS.2.2.2.2.2.2.1, xup_k (hB (by decide)) hS.2.2.2.2.2.2.2⟩
theorem xSer.up6 {B : Nat → Nat} {I : xSi} {V : Nat → Nat → Int32} (hS : xSer G B pg I V h) (hB : ∀ {i j : Nat}, i ≠ j → B i ≠ B j) (f : Nat → Int32) : xSer G B pg I (va_up V 6 f) (xup h (B 6) (xRi G 640 f)) :=
  ⟨xup_k (hB (by decide)) hS.1, xup_k (hB (by decide)) hS.2.1, xup_k (hB (by decide)) hS.2.2.1, xup_k (hB (by decide)) hS.2.2.2.1, xup_k (hB (by decide)) hS.2.2.2.2.1, xup_k (hB (by decide)) hS.2.2.2.2.2.1, xup_s, xup_k (hB (by decide)) hS.2.2.2.2.2.2.2⟩
theorem xSer.up7 {B : Nat → Nat} {I : xSi} {V : Nat → Nat → Int32} (hS : xSer G B pg I V h) (hB : ∀ {i j : Nat}, i ≠ j → B i ≠ B j) (f : Nat → Int32) : xSer G B pg I (va_up V 7 f) (xup h (B 7) (xRi G 640 f)) :=
  ⟨xup_k (hB (by decide)) hS.1, xup_k (hB (by decide)) hS.2.1, xup_k (hB (by decide)) hS.2.2.1, xup_k (hB (by decide)) hS.2.2.2.1, xup_k (hB (by decide)) hS.2.2.2.2.1, xup_k (hB (by decide)) hS.2.2.2.2.2.1, xup_k (hB (by decide)) hS.2.2.2.2.2.2.1, xup_s⟩
theorem xDs.b (hD : xDs sc pg sx sy al ed C B) (k : Nat) : ∀ {i j : Nat}, i ≠ j → B k i ≠ B k j := fun {i j} e => hD.1 k i k j (fun z => e z.2)
end XF
