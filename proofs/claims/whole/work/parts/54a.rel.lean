/-! PURE: class and reference stand alike -/
/-- series k -/
def zSr (I : xSi) (V : Nat → Nat → Int32) (X : Nat → Nat → Int32) (k : Nat) : Prop :=
  (I.1 = X 8 k ∧ I.2.1 = X 9 k ∧ I.2.2.1 = X 10 k ∧ I.2.2.2.1 = X 11 k) ∧ (0 ≤ (X 8 k).toInt ∧ (X 8 k).toInt ≤ 4) ∧ (33 ≤ (X 10 k).toInt ∧ (X 10 k).toInt ≤ 126) ∧
  ∀ i, i < (X 11 k).toNatClampNeg → (V 1 i = X 12 (24 * k + i) ∧ V 2 i = X 13 (24 * k + i) ∧ V 3 i = X 14 (24 * k + i) ∧ V 4 i = X 15 (24 * k + i)) ∧ (-1000000 ≤ (V 1 i).toInt ∧ (V 1 i).toInt ≤ 1000000) ∧ (-1000000 ≤ (V 2 i).toInt ∧ (V 2 i).toInt ≤ 1000000) ∧ (0 ≤ (V 3 i).toInt ∧ (V 3 i).toInt ≤ 1000000)
/-- what the two hold, without what they have drawn -/
def zRel0 (cn rn Ln : Nat) (p : xPv) (n : Int32) (U : Nat → Nat → Int32) (N : Nat) (I : Nat → xSi) (V : Nat → Nat → Nat → Int32) (J : xMi) (X : Nat → Nat → Int32) : Prop :=
  zDim cn rn p J ∧ (n = nI Ln ∧ J.2.2.1 = nI N ∧ J.2.2.2.1 = nI Ln ∧ N ≤ 6 ∧ Ln ≤ 20) ∧ (zOk p.2.2.1 ∧ zOk p.2.2.2 ∧ zAx p.2.2.1 J X 0 ∧ zAx p.2.2.2 J X 1) ∧
  (∀ k, k < 6 → (0 ≤ (X 9 k).toInt ∧ (X 9 k).toInt ≤ 9) ∧ (0 ≤ (X 11 k).toInt ∧ (X 11 k).toInt ≤ 24)) ∧ (∀ k, k < N → zSr (I k) (V k) X k) ∧
  (∀ i, i < Ln → (U 1 i = X 17 i ∧ U 2 i = X 18 i ∧ U 3 i = X 19 i ∧ U 4 i = X 20 i ∧ U 5 i = X 21 i) ∧ (0 ≤ (U 1 i).toInt ∧ (U 1 i).toInt ≤ 100) ∧ (0 ≤ (U 3 i).toInt ∧ (U 3 i).toInt ≤ 100))
def zFrC (p : xPv) (N : Nat) (I : Nat → xSi) (V : Nat → Nat → Nat → Int32) : Prop := ∀ k, k < N → (I k).2.2.2.2 = 0 → FX3_draw p (I k) (V k) = (V k 6, V k 7)
def zFrR (J : xMi) (X : Nat → Nat → Int32) : Prop := ¬ J.2.2.2.2 = 0 → J.2.2.2.2 = 1 ∧ FX6_draws J X = (X 23, X 24)
def zRel (cn rn Ln : Nat) (p : xPv) (n : Int32) (U : Nat → Nat → Int32) (N : Nat) (I : Nat → xSi) (V : Nat → Nat → Nat → Int32) (J : xMi) (X : Nat → Nat → Int32) : Prop := zRel0 cn rn Ln p n U N I V J X ∧ zFrC p N I V ∧ zFrR J X
theorem z24 {k i : Nat} (hk : k < 6) (hi : i < 24) : Int32.toNatClampNeg ((24 * nI k) + nI i) = 24 * k + i := by
  rw [show (24 : Int32) = nI 24 from rfl, pk_mul, nI_add, nI_clamp (by omega)]
theorem z640 {k i : Nat} (hk : k < 6) (hi : i < 640) : Int32.toNatClampNeg ((640 * nI k) + nI i) = 640 * k + i := by
  rw [show (640 : Int32) = nI 640 from rfl, pk_mul, nI_add, nI_clamp (by omega)]
section ZR
variable {cn rn Ln : Nat} {p : xPv} {n : Int32} {U : Nat → Nat → Int32} {N : Nat} {I : Nat → xSi} {V : Nat → Nat → Nat → Int32} {J : xMi} {X : Nat → Nat → Int32}
theorem zRel0.sz (h : zRel0 cn rn Ln p n U N I V J X) {k : Nat} (hk : k < N) : (X 11 k).toNatClampNeg ≤ 24 ∧ X 11 k = nI (X 11 k).toNatClampNeg ∧ k < 6 ∧ (X 11 k).toInt = ((X 11 k).toNatClampNeg : Int) := by
  have h6 := h.2.1
  have := (h.2.2.2.1 k (by omega)).2
  refine ⟨by unfold Int32.toNatClampNeg; omega, nI_ofT this.1, by omega, by unfold Int32.toNatClampNeg; omega⟩
theorem z_hasP (h : zRel0 cn rn Ln p n U N I V J X) {k i : Nat} (hk : k < N) (hi : i < (X 11 k).toNatClampNeg) : FX3_has (I k) (V k) (nI i) = 1 := by
  have s := h.sz hk
  unfold FX3_has
  rw [(h.2.2.2.2.1 k hk).1.2.2.2, s.2.1, if_neg (nI_pos (by omega)), if_neg (nI_ge hi (by omega))]
theorem z_pts (h : zRel0 cn rn Ln p n U N I V J X) {k i : Nat} (hk : k < N) (hi : i < (X 11 k).toNatClampNeg) : FX3_isPoint (I k) (V k) (nI i) = (if X 15 (24 * k + i) = 0 then 1 else 0) := by
  have s := h.sz hk
  have e := ((h.2.2.2.2.1 k hk).2.2.2 i hi).1
  unfold FX3_isPoint
  rw [z_hasP h hk hi, if_neg (by decide), nI_clamp (by omega), e.2.2.2]
theorem z_across (h : zRel0 cn rn Ln p n U N I V J X) {k i : Nat} (hk : k < N) (hi : i < (X 11 k).toNatClampNeg) : FX3_dotAcross p (I k) (V k) (nI i) = FX6_across J X (nI k) (nI i) ∧ FX3_dotAcross p (I k) (V k) (nI i) = FX2_placeOf p.2.2.1 (V k 1 i) := by
  have s := h.sz hk
  have e := ((h.2.2.2.2.1 k hk).2.2.2 i hi).1
  have e2 : FX3_dotAcross p (I k) (V k) (nI i) = FX2_placeOf p.2.2.1 (V k 1 i) := by
    unfold FX3_dotAcross
    rw [z_hasP h hk hi, if_neg (by decide), nI_clamp (by omega)]
  refine ⟨?_, e2⟩
  rw [e2]
  unfold FX6_across
  rw [z24 s.2.2.1 (by omega), z_plR h.2.2.1.1 h.2.2.1.2.2.1, e.1]
theorem z_upw (h : zRel0 cn rn Ln p n U N I V J X) {k i : Nat} (hk : k < N) (hi : i < (X 11 k).toNatClampNeg) : FX3_dotUpwards p (I k) (V k) (nI i) = FX6_upwards J X (nI k) (nI i) ∧ FX3_dotUpwards p (I k) (V k) (nI i) = FX2_placeOf p.2.2.2 (V k 2 i) := by
  have s := h.sz hk
  have e := ((h.2.2.2.2.1 k hk).2.2.2 i hi).1
  have e2 : FX3_dotUpwards p (I k) (V k) (nI i) = FX2_placeOf p.2.2.2 (V k 2 i) := by
    unfold FX3_dotUpwards
    rw [z_hasP h hk hi, if_neg (by decide), nI_clamp (by omega)]
  refine ⟨?_, e2⟩
  rw [e2]
  unfold FX6_upwards
  rw [z24 s.2.2.1 (by omega), z_plR h.2.2.1.2.1 h.2.2.1.2.2.2, e.2.1]
theorem z_neg9 {S : xS} {v : Int32} (hS : zOk S) : FX2_placeOf S v = -9 ↔ FX2_placeOf S v < 0 := by
  rcases z_plB (v := v) hS with e | e
  · rw [e]; decide
  · constructor
    · intro z; rw [z] at e; exact absurd e.1 (by decide)
    · intro z; rw [fa_lt, zi0] at z; omega
theorem z_seen (h : zRel0 cn rn Ln p n U N I V J X) {k i : Nat} (hk : k < N) (hi : i < (X 11 k).toNatClampNeg) : FX3_isSeen p (I k) (V k) (nI i) = FX6_isSeen J X (nI k) (nI i) := by
  have s := h.sz hk
  have a1 := z_across h hk hi
  have a2 := z_upw h hk hi
  unfold FX3_isSeen FX6_isSeen
  rw [z_pts h hk hi, if_neg (nI_pos (by omega)), z24 s.2.2.1 (by omega), ← a1.1, a1.2, ← a2.1, a2.2, nI_clamp (by omega)]
  by_cases hg : X 15 (24 * k + i) = 0
  · rw [if_pos hg, if_neg (by decide), if_pos hg]
    by_cases h1 : FX2_placeOf p.2.2.1 (V k 1 i) = -9
    · rw [if_pos h1, if_pos ((z_neg9 h.2.2.1.1).mp h1)]
    · rw [if_neg h1, if_neg (fun z => h1 ((z_neg9 h.2.2.1.1).mpr z))]
      by_cases h2 : FX2_placeOf p.2.2.2 (V k 2 i) = -9
      · rw [if_pos h2, if_pos ((z_neg9 h.2.2.1.2.1).mp h2)]
      · rw [if_neg h2, if_neg (fun z => h2 ((z_neg9 h.2.2.1.2.1).mpr z))]
  · rw [if_neg hg, if_pos rfl, if_neg hg]
theorem z_dn (h : zRel0 cn rn Ln p n U N I V J X) : p.2.2.1.2.2.2.2.2.toInt = 2 * cn ∧ p.2.2.2.2.2.2.2.2.toInt = 4 * rn := by
  have d := h.1.2
  have a1 := h.2.2.1.2.2.1.2.2.2.2.2
  have a2 := h.2.2.1.2.2.2.2.2.2.2.2
  unfold FX6_dots at a1 a2
  rw [if_pos rfl, h.1.1.2.2.1, show (2 : Int32) = nI 2 from rfl, pk_mul] at a1
  rw [if_neg (by decide), h.1.1.2.2.2, show (4 : Int32) = nI 4 from rfl, pk_mul] at a2
  rw [← a1, ← a2, nI_toInt (by omega), nI_toInt (by omega)]
  omega
/-- a point that is seen has its dot on the canvas -/
theorem z_pt (h : zRel0 cn rn Ln p n U N I V J X) {k i : Nat} (hk : k < N) (hi : i < (X 11 k).toNatClampNeg) (hs : ¬ FX3_isSeen p (I k) (V k) (nI i) = 0) : zPt cn rn (FX3_dotAcross p (I k) (V k) (nI i)) (FX3_dotUpwards p (I k) (V k) (nI i)) := by
  have a1 := z_across h hk hi
  have a2 := z_upw h hk hi
  have s := h.sz hk
  have dn := z_dn h
  rw [a1.2, a2.2]
  unfold FX3_isSeen at hs
  rw [nI_clamp (by omega)] at hs
  by_cases h0 : FX3_isPoint (I k) (V k) (nI i) = 0
  · rw [if_pos h0] at hs; exact absurd rfl hs
  · rw [if_neg h0] at hs
    by_cases h1 : FX2_placeOf p.2.2.1 (V k 1 i) = -9
    · rw [if_pos h1] at hs; exact absurd rfl hs
    · rw [if_neg h1] at hs
      by_cases h2 : FX2_placeOf p.2.2.2 (V k 2 i) = -9
      · rw [if_pos h2] at hs; exact absurd rfl hs
      · have b1 := (z_plB (v := V k 1 i) h.2.2.1.1).resolve_left h1
        have b2 := (z_plB (v := V k 2 i) h.2.2.1.2.1).resolve_left h2
        exact ⟨b1.1, by omega, b2.1, by omega⟩
theorem z_seenB (i : Nat) (h0 : i = 0) {k : Nat} : FX3_isSeen p (I k) (V k) (nI i - 1) = 0 ∧ FX6_isSeen J X (nI k) (nI i - 1) = 0 := by
  subst h0
  have e : (nI 0 - 1 : Int32) < 0 := by decide
  unfold FX3_isSeen FX6_isSeen FX3_isPoint FX3_has
  rw [if_pos e, if_pos rfl, if_pos rfl, if_pos e]
  exact ⟨rfl, rfl⟩
/-- the dot before -/
theorem z_before (h : zRel0 cn rn Ln p n U N I V J X) {k i : Nat} (hk : k < N) (hi : i < (X 11 k).toNatClampNeg) (hs : ¬ FX3_isSeen p (I k) (V k) (nI i) = 0) : sBx p (I k) (V k) (nI i) = mBx J X (nI k) (nI i) ∧ sBy p (I k) (V k) (nI i) = mBy J X (nI k) (nI i) ∧ zPt cn rn (sBx p (I k) (V k) (nI i)) (sBy p (I k) (V k) (nI i)) := by
  have a1 := z_across h hk hi
  have a2 := z_upw h hk hi
  have pt := z_pt h hk hi hs
  unfold sBx sBy mBx mBy sPx sPy mPx mPy
  cases i with
  | zero =>
    have z := z_seenB (p := p) (I := I) (V := V) (J := J) (X := X) 0 rfl (k := k)
    rw [if_pos z.1, if_pos z.2, if_pos z.1, if_pos z.2]
    exact ⟨a1.1, a2.1, pt⟩
  | succ i =>
    rw [nI_pred]
    have hi' : i < (X 11 k).toNatClampNeg := by omega
    rw [← z_seen h hk hi', ← (z_across h hk hi').1, ← (z_upw h hk hi').1, ← a1.1, ← a2.1]
    by_cases z : FX3_isSeen p (I k) (V k) (nI i) = 0
    · rw [if_pos z, if_pos z]; exact ⟨rfl, rfl, pt⟩
    · rw [if_neg z, if_neg z]; exact ⟨rfl, rfl, z_pt h hk hi' z⟩
theorem z_end (h : zRel0 cn rn Ln p n U N I V J X) {k : Nat} {v w : Int32} (hw : 0 ≤ w.toInt ∧ w.toInt < 4 * rn) : FX3_endOf p (I k) (V k) v w = FX6_endOf J X v w ∧ 0 ≤ (FX3_endOf p (I k) (V k) v w).toInt ∧ (FX3_endOf p (I k) (V k) v w).toInt < 4 * rn := by
  have dn := z_dn h
  unfold FX3_endOf FX6_endOf
  rw [z_plR h.2.2.1.2.1 h.2.2.1.2.2.2]
  rcases z_plB (v := v) h.2.2.1.2.1 with e | e
  · rw [if_pos e, e, if_neg (by decide)]; exact ⟨rfl, hw.1, hw.2⟩
  · have n9 : ¬ FX2_placeOf p.2.2.2 v = -9 := fun z => by rw [z] at e; exact absurd e.1 (by decide)
    rw [if_neg n9, if_pos (by rw [fa_le, zi0]; exact e.1)]; exact ⟨rfl, e.1, by omega⟩
theorem z_ends (h : zRel0 cn rn Ln p n U N I V J X) {k i : Nat} (hk : k < N) (hi : i < (X 11 k).toNatClampNeg) (hs : ¬ FX3_isSeen p (I k) (V k) (nI i) = 0) : sE1 p (I k) (V k) (nI i) = mE1 J X (nI k) (nI i) ∧ sE2 p (I k) (V k) (nI i) = mE2 J X (nI k) (nI i) ∧ zPt cn rn (sPx p (I k) (V k) (nI i)) (sE1 p (I k) (V k) (nI i)) ∧ zPt cn rn (sPx p (I k) (V k) (nI i)) (sE2 p (I k) (V k) (nI i)) := by
  have s := h.sz hk
  have a2 := z_upw h hk hi
  have pt := z_pt h hk hi hs
  have e := ((h.2.2.2.2.1 k hk).2.2.2 i hi).1
  unfold sE1 sE2 mE1 mE2 sPy mPy sPx
  rw [z24 s.2.2.1 (by omega), nI_clamp (by omega), ← a2.1, ← e.2.1, ← e.2.2.1]
  have w : 0 ≤ (FX3_dotUpwards p (I k) (V k) (nI i)).toInt ∧ (FX3_dotUpwards p (I k) (V k) (nI i)).toInt < 4 * rn := ⟨pt.2.2.1, pt.2.2.2⟩
  have z1 := z_end h (k := k) (v := V k 2 i - V k 3 i) w
  have z2 := z_end h (k := k) (v := V k 2 i + V k 3 i) w
  exact ⟨z1.1, z2.1, ⟨pt.1, pt.2.1, z1.2.1, z1.2.2⟩, ⟨pt.1, pt.2.1, z2.2.1, z2.2.2⟩⟩
theorem z_drOk (h : zRel0 cn rn Ln p n U N I V J X) {k i : Nat} (hk : k < N) (hi : i < (X 11 k).toNatClampNeg) (hs : ¬ FX3_isSeen p (I k) (V k) (nI i) = 0) : drOk p (I k) (V k) (nI i) := by
  have pt := z_pt h hk hi hs
  have b := z_before h hk hi hs
  have e := z_ends h hk hi hs
  have h640 := z_cn h.1
  obtain ⟨c, hc, e1, -⟩ := z_cell h.1 pt
  have mx : zPt cn rn (sPx p (I k) (V k) (nI i)) (sBy p (I k) (V k) (nI i)) := ⟨pt.1, pt.2.1, b.2.2.2.2.1, b.2.2.2.2.2⟩
  exact ⟨z_vp e1 (by omega) (by decide), z_lnOk h.1 b.2.2 pt, z_lnOk h.1 b.2.2 mx, z_lnOk h.1 mx pt, z_barOk h.1 pt, z_lnOk h.1 e.2.2.1 e.2.2.2⟩
theorem z_mdrOk (h : zRel0 cn rn Ln p n U N I V J X) {k i : Nat} (hk : k < N) (hi : i < (X 11 k).toNatClampNeg) (hs : ¬ FX3_isSeen p (I k) (V k) (nI i) = 0) : mdrOk J X (nI k) (nI i) := by
  have s := h.sz hk
  have pt := z_pt h hk hi hs
  have b := z_before h hk hi hs
  have e := z_ends h hk hi hs
  have h640 := z_cn h.1
  have ex : mPx J X (nI k) (nI i) = sPx p (I k) (V k) (nI i) := (z_across h hk hi).1.symm
  have ey : mPy J X (nI k) (nI i) = sPy p (I k) (V k) (nI i) := (z_upw h hk hi).1.symm
  unfold mdrOk
  rw [ex, ey, ← b.1, ← b.2.1, ← e.1, ← e.2.1]
  obtain ⟨c, hc, -, e1⟩ := z_cell h.1 pt
  have mx : zPt cn rn (sPx p (I k) (V k) (nI i)) (sBy p (I k) (V k) (nI i)) := ⟨pt.1, pt.2.1, b.2.2.2.2.1, b.2.2.2.2.2⟩
  exact ⟨z_vp (e1 k s.2.2.1) (by omega) (by decide), z_mlnOk h.1 b.2.2 pt s.2.2.1, z_mlnOk h.1 b.2.2 mx s.2.2.1, z_mlnOk h.1 mx pt s.2.2.1, z_mbarOk h.1 pt s.2.2.1, z_mlnOk h.1 e.2.2.1 e.2.2.2 s.2.2.1⟩
/-- one point is drawn -/
theorem z_draw1 (h : zRel0 cn rn Ln p n U N I V J X) {k i : Nat} {r r' : xR2} (hk : k < N) (hi : i < (X 11 k).toNatClampNeg) (hs : ¬ FX3_isSeen p (I k) (V k) (nI i) = 0) (hr : zDr cn rn (X 8 k) (X 10 k) k r r') : zDr cn rn (X 8 k) (X 10 k) k (FX3_drawSeen p (I k) (V k) r (nI i)) (FX6_drawsPoint J X r' (nI k) (nI i)) ∧ zOut k r' (FX6_drawsPoint J X r' (nI k) (nI i)) := by
  have s := h.sz hk
  have pt := z_pt h hk hi hs
  have b := z_before h hk hi hs
  have e := z_ends h hk hi hs
  have h640 := z_cn h.1
  have sr := h.2.2.2.2.1 k hk
  have ex : mPx J X (nI k) (nI i) = sPx p (I k) (V k) (nI i) := (z_across h hk hi).1.symm
  have ey : mPy J X (nI k) (nI i) = sPy p (I k) (V k) (nI i) := (z_upw h hk hi).1.symm
  have mx : zPt cn rn (sPx p (I k) (V k) (nI i)) (sBy p (I k) (V k) (nI i)) := ⟨pt.1, pt.2.1, b.2.2.2.2.1, b.2.2.2.2.2⟩
  have i24 : i < 24 := by omega
  unfold FX3_drawSeen FX6_drawsPoint
  rw [nI_clamp (show k < 2 ^ 31 by omega), ex, ey, ← b.1, ← b.2.1, ← e.1, ← e.2.1, sr.1.1]
  by_cases m0 : X 8 k = 0
  · rw [if_pos m0, if_pos m0]
    obtain ⟨c, hc, e1, e2⟩ := z_cell h.1 pt
    have e2 := e2 k s.2.2.1
    have e1 : dcell p (sPx p (I k) (V k) (nI i)) (sPy p (I k) (V k) (nI i)) = nI c := e1
    have e2 : mcell J (nI k) (sPx p (I k) (V k) (nI i)) (sPy p (I k) (V k) (nI i)) = nI (640 * k + c) := e2
    obtain ⟨h1, a, b0, h2, h4, h5, h6, h7, h8, h9⟩ := hr c (by omega)
    have ec2 : (nI (640 * k + c)).toNatClampNeg = 640 * k + c := nI_clamp (by omega)
    have eu : r.1 = upd r.1 c (nI b0) := by
      funext z
      unfold upd
      split
      · rename_i hz; rw [hz, h4]
      · rfl
    rw [e1, e2, ec2]
    have z := hr.up h640 hc i24 (b := b0) (u := X 10 k) h6 (by rw [if_pos m0]) (fun q => absurd (q ▸ m0 : (3 : Int32) = 0) (by decide))
    rw [← eu] at z
    have ed : dHit r'.2 (nI (640 * k + c)) (nI i) = upd r'.2 (640 * k + c) ((r'.2 (640 * k + c)) ||| ((1 : Int32) <<< (nI i &&& 31))) := by unfold dHit; rw [ec2]
    rw [ed]
    exact ⟨z, zOut.up (by omega)⟩
  · rw [if_neg m0, if_neg m0]
    by_cases m1 : X 8 k = 1
    · rw [if_pos m1, if_pos m1]
      exact z_line h.1 s.2.2.1 m0 (by rw [m1]; decide) i24 b.2.2 pt hr
    · rw [if_neg m1, if_neg m1]
      by_cases m2 : X 8 k = 2
      · rw [if_pos m2, if_pos m2]
        have m3 : ¬ X 8 k = 3 := by rw [m2]; decide
        have z1 := z_line h.1 s.2.2.1 m0 m3 i24 b.2.2 mx hr
        have z2 := z_line h.1 s.2.2.1 m0 m3 i24 mx pt z1.1
        exact ⟨z2.1, z1.2.tr z2.2⟩
      · rw [if_neg m2, if_neg m2]
        by_cases m3 : X 8 k = 3
        · rw [if_pos m3, if_pos m3]
          exact z_bar h.1 s.2.2.1 m3 i24 pt hr
        · rw [if_neg m3, if_neg m3]
          exact z_line h.1 s.2.2.1 m0 m3 i24 e.2.2.1 e.2.2.2 hr
theorem z_drawP (h : zRel0 cn rn Ln p n U N I V J X) {k : Nat} (hk : k < N) : ∀ (n9 i : Nat) (r r' : xR2), i + n9 = (X 11 k).toNatClampNeg → zDr cn rn (X 8 k) (X 10 k) k r r' → zDr cn rn (X 8 k) (X 10 k) k (LX3_draw p (I k) (V k) n9 i r) (LX6_pts J X k n9 i r') ∧ zOut k r' (LX6_pts J X k n9 i r') := by
  intro n9
  induction n9 with
  | zero => intro i r r' _ hr; rw [LX3_draw, LX6_pts]; exact ⟨hr, zOut.rf⟩
  | succ n9 ih =>
    intro i r r' hi hr
    rw [LX3_draw, LX6_pts, ← z_seen h hk (show i < (X 11 k).toNatClampNeg by omega)]
    by_cases hs : FX3_isSeen p (I k) (V k) (nI i) = 0
    · rw [if_pos hs, if_pos hs]; exact ih (i + 1) r r' (by omega) hr
    · rw [if_neg hs, if_neg hs]
      have z := z_draw1 h hk (by omega) hs hr
      have z2 := ih (i + 1) _ _ (by omega) z.1
      exact ⟨z2.1, z.2.tr z2.2⟩
theorem zDr_0 {M g : Int32} {k : Nat} : zDr cn rn M g k xR0 xR0 := fun q hq => ⟨rfl, 0, 0, rfl, rfl, by decide, by decide, fun _ => rfl, fun _ => ⟨rfl, rfl⟩, fun z => absurd rfl z⟩
theorem zDr.out {M g : Int32} {k j : Nat} {r r1 r2 : xR2} (h : zDr cn rn M g k r r1) (ho : zOut j r1 r2) (e : k ≠ j) : zDr cn rn M g k r r2 := by
  intro q hq
  have z := ho (640 * k + q) (by omega)
  rw [z.1, z.2]
  exact h q hq
/-- all series are drawn -/
theorem z_draws (h : zRel0 cn rn Ln p n U N I V J X) : ∀ (n9 s : Nat) (r' : xR2), s + n9 = N → (∀ k, k < s → zDr cn rn (X 8 k) (X 10 k) k (FX3_draw p (I k) (V k)) r') → (∀ k, s ≤ k → zDr cn rn (X 8 k) (X 10 k) k xR0 r') → ∀ k, k < N → zDr cn rn (X 8 k) (X 10 k) k (FX3_draw p (I k) (V k)) (LX6_sers J X n9 s r') := by
  intro n9
  induction n9 with
  | zero => intro s r' hs h1 _ k hk; rw [LX6_sers]; exact h1 k (by omega)
  | succ n9 ih =>
    intro s r' hs h1 h2
    rw [LX6_sers]
    have hsN : s < N := by omega
    have z := z_drawP h hsN (X 11 s).toNatClampNeg 0 xR0 r' (by omega) (h2 s (Nat.le_refl _))
    refine ih (s + 1) _ (by omega) (fun k hk => ?_) (fun k hk => (h2 k (by omega)).out z.2 (by omega))
    by_cases e : k = s
    · subst e
      have ez : (I k).2.2.2.1 = X 11 k := (h.2.2.2.2.1 k hsN).1.2.2.2
      unfold FX3_draw
      rw [ez]
      exact z.1
    · exact (h1 k (by omega)).out z.2 e
theorem zRel0.md (h : zRel0 cn rn Ln p n U N I V J X) : zRel0 cn rn Ln p n U N I V (mdI J) X := h
theorem z_drawn (h : zRel0 cn rn Ln p n U N I V J X) {k : Nat} (hk : k < N) : zDr cn rn (X 8 k) (X 10 k) k (FX3_draw p (I k) (V k)) (FX6_draws J X) := by
  unfold FX6_draws
  rw [h.2.1.2.1, nI_clamp (by have := h.2.1; omega)]
  exact z_draws h.md N 0 xR0 (by omega) (fun k hk => absurd hk (Nat.not_lt_zero k)) (fun k _ => zDr_0) k hk
end ZR
