/-! BOTH: the beginning -/
def zPos (k : Nat) : Nat := if k = 0 then 12 else if k < 7 then 11 + k else if k < 16 then 10 + k else if k < 22 then 9 + k else 8 + k
def zNo : zIx → Nat
  | .inl _ => 1
  | .inr (.inl _) => 2
  | .inr (.inr (.inl _)) => 3
  | .inr (.inr (.inr (.inl _))) => 4
  | .inr (.inr (.inr (.inr (.inl _)))) => 5
  | .inr (.inr (.inr (.inr (.inr (.inl _))))) => 0
  | .inr (.inr (.inr (.inr (.inr (.inr (.inl i)))))) => 6 + i
  | .inr (.inr (.inr (.inr (.inr (.inr (.inr (.inl _))))))) => 0
  | .inr (.inr (.inr (.inr (.inr (.inr (.inr (.inr k))))))) => zPos k
theorem xMn_real {k : Nat} (h : k = 0 ∨ xMn k ≠ 0) : k < 26 ∧ k ≠ 1 ∧ k ≠ 7 ∧ k ≠ 16 ∧ k ≠ 22 := by
  rcases h with rfl | h
  · decide
  · refine ⟨?_, fun e => ?_, fun e => ?_, fun e => ?_, fun e => ?_⟩
    · unfold xMn at h
      split at h <;> first | omega | exact absurd rfl h
    all_goals (subst e; exact h rfl)
theorem zPos_b {k : Nat} (h : k = 0 ∨ xMn k ≠ 0) : 12 ≤ zPos k ∧ zPos k < 34 := by
  have := xMn_real h
  unfold zPos
  repeat' split
  all_goals omega
theorem zPos_inj {k j : Nat} (h : k = 0 ∨ xMn k ≠ 0) (h' : j = 0 ∨ xMn j ≠ 0) (e : zPos k = zPos j) : k = j := by
  have := xMn_real h
  have := xMn_real h'
  unfold zPos at e
  repeat' split at e
  all_goals omega
theorem zNo_b {t : zIx} (h : zRl 0 t) : zNo t < 34 := by
  rcases t with _ | _ | _ | _ | _ | _ | i | ⟨k, j⟩ | k
  · show 1 < 34; decide
  · show 2 < 34; decide
  · show 3 < 34; decide
  · show 4 < 34; decide
  · show 5 < 34; decide
  · show 0 < 34; decide
  · have h : i < 6 := h; show 6 + i < 34; omega
  · exact absurd h.1 (Nat.not_lt_zero k)
  · exact (zPos_b h).2
theorem zNo_inj {a b : zIx} (ha : zRl 0 a) (hb : zRl 0 b) (e : zNo a = zNo b) : a = b := by
  rcases a with _ | _ | _ | _ | _ | _ | i | ⟨k, j⟩ | m
  · rcases b with _ | _ | _ | _ | _ | _ | i9 | ⟨k9, j9⟩ | m9
    · rfl
    · have e : 1 = 2 := e; omega
    · have e : 1 = 3 := e; omega
    · have e : 1 = 4 := e; omega
    · have e : 1 = 5 := e; omega
    · have e : 1 = 0 := e; omega
    · have e : 1 = 6 + i9 := e; have r9 : i9 < 6 := hb; omega
    · exact absurd hb.1 (Nat.not_lt_zero k9)
    · have e : 1 = zPos m9 := e; have q9 := zPos_b hb; omega
  · rcases b with _ | _ | _ | _ | _ | _ | i9 | ⟨k9, j9⟩ | m9
    · have e : 2 = 1 := e; omega
    · rfl
    · have e : 2 = 3 := e; omega
    · have e : 2 = 4 := e; omega
    · have e : 2 = 5 := e; omega
    · have e : 2 = 0 := e; omega
    · have e : 2 = 6 + i9 := e; have r9 : i9 < 6 := hb; omega
    · exact absurd hb.1 (Nat.not_lt_zero k9)
    · have e : 2 = zPos m9 := e; have q9 := zPos_b hb; omega
  · rcases b with _ | _ | _ | _ | _ | _ | i9 | ⟨k9, j9⟩ | m9
    · have e : 3 = 1 := e; omega
    · have e : 3 = 2 := e; omega
    · rfl
    · have e : 3 = 4 := e; omega
    · have e : 3 = 5 := e; omega
    · have e : 3 = 0 := e; omega
    · have e : 3 = 6 + i9 := e; have r9 : i9 < 6 := hb; omega
    · exact absurd hb.1 (Nat.not_lt_zero k9)
    · have e : 3 = zPos m9 := e; have q9 := zPos_b hb; omega
  · rcases b with _ | _ | _ | _ | _ | _ | i9 | ⟨k9, j9⟩ | m9
    · have e : 4 = 1 := e; omega
    · have e : 4 = 2 := e; omega
    · have e : 4 = 3 := e; omega
    · rfl
    · have e : 4 = 5 := e; omega
    · have e : 4 = 0 := e; omega
    · have e : 4 = 6 + i9 := e; have r9 : i9 < 6 := hb; omega
    · exact absurd hb.1 (Nat.not_lt_zero k9)
    · have e : 4 = zPos m9 := e; have q9 := zPos_b hb; omega
  · rcases b with _ | _ | _ | _ | _ | _ | i9 | ⟨k9, j9⟩ | m9
    · have e : 5 = 1 := e; omega
    · have e : 5 = 2 := e; omega
    · have e : 5 = 3 := e; omega
    · have e : 5 = 4 := e; omega
    · rfl
    · have e : 5 = 0 := e; omega
    · have e : 5 = 6 + i9 := e; have r9 : i9 < 6 := hb; omega
    · exact absurd hb.1 (Nat.not_lt_zero k9)
    · have e : 5 = zPos m9 := e; have q9 := zPos_b hb; omega
  · rcases b with _ | _ | _ | _ | _ | _ | i9 | ⟨k9, j9⟩ | m9
    · have e : 0 = 1 := e; omega
    · have e : 0 = 2 := e; omega
    · have e : 0 = 3 := e; omega
    · have e : 0 = 4 := e; omega
    · have e : 0 = 5 := e; omega
    · rfl
    · have e : 0 = 6 + i9 := e; have r9 : i9 < 6 := hb; omega
    · exact absurd hb.1 (Nat.not_lt_zero k9)
    · have e : 0 = zPos m9 := e; have q9 := zPos_b hb; omega
  · rcases b with _ | _ | _ | _ | _ | _ | i9 | ⟨k9, j9⟩ | m9
    · have e : 6 + i = 1 := e; have r : i < 6 := ha; omega
    · have e : 6 + i = 2 := e; have r : i < 6 := ha; omega
    · have e : 6 + i = 3 := e; have r : i < 6 := ha; omega
    · have e : 6 + i = 4 := e; have r : i < 6 := ha; omega
    · have e : 6 + i = 5 := e; have r : i < 6 := ha; omega
    · have e : 6 + i = 0 := e; have r : i < 6 := ha; omega
    · have e : 6 + i = 6 + i9 := e; rw [show i = i9 by omega]
    · exact absurd hb.1 (Nat.not_lt_zero k9)
    · have e : 6 + i = zPos m9 := e; have q9 := zPos_b hb; have r : i < 6 := ha; omega
  · exact absurd ha.1 (Nat.not_lt_zero k)
  · rcases b with _ | _ | _ | _ | _ | _ | i9 | ⟨k9, j9⟩ | m9
    · have e : zPos m = 1 := e; have q := zPos_b ha; omega
    · have e : zPos m = 2 := e; have q := zPos_b ha; omega
    · have e : zPos m = 3 := e; have q := zPos_b ha; omega
    · have e : zPos m = 4 := e; have q := zPos_b ha; omega
    · have e : zPos m = 5 := e; have q := zPos_b ha; omega
    · have e : zPos m = 0 := e; have q := zPos_b ha; omega
    · have e : zPos m = 6 + i9 := e; have q := zPos_b ha; have r9 : i9 < 6 := hb; omega
    · exact absurd hb.1 (Nat.not_lt_zero k9)
    · rw [zPos_inj ha hb e]
theorem z_mono {g : Nat → Nat} {n : Nat} (hg : ∀ i, i + 1 < n → g i < g (i + 1)) : ∀ d i, i + d + 1 < n → g i < g (i + d + 1) := by
  intro d
  induction d with
  | zero => exact fun i hi => hg i hi
  | succ d ih => exact fun i hi => Nat.lt_trans (ih i (by omega)) (hg (i + d + 1) (by omega))
theorem z_mono2 {g : Nat → Nat} {n : Nat} (hg : ∀ i, i + 1 < n → g i < g (i + 1)) {i j : Nat} (hj : j < n) (h : i < j) : g i < g j := by
  have := z_mono hg (j - i - 1) i (by omega)
  rw [show i + (j - i - 1) + 1 = j by omega] at this
  exact this
def zX0 (k : Nat) : Nat → Int32 := if k = 4 then upd (upd (fun _ => 0) (Int32.toNatClampNeg (0 : Int32)) (10 : Int32)) (Int32.toNatClampNeg (1 : Int32)) (10 : Int32) else fun _ => 0
theorem z_rel0 {U : Nat → Nat → Int32} {I : Nat → xSi} {V : Nat → Nat → Nat → Int32} : zRel 20 8 0 xP0 0 U 0 I V (20, 8, 0, 0, 0) zX0 := by
  refine ⟨⟨⟨⟨rfl, rfl, rfl, rfl⟩, by decide⟩, ⟨rfl, rfl, rfl, by decide, by decide⟩, ⟨⟨Or.inl rfl, by decide, fun q => absurd q (by decide), by decide⟩, ⟨Or.inl rfl, by decide, fun q => absurd q (by decide), by decide⟩, ⟨rfl, rfl, rfl, rfl, rfl, rfl⟩, ⟨rfl, rfl, rfl, rfl, rfl, rfl⟩⟩, fun k _ => ?_, fun k hk => absurd hk (Nat.not_lt_zero k), fun k hk => absurd hk (Nat.not_lt_zero k)⟩, fun k hk => absurd hk (Nat.not_lt_zero k), fun q => absurd rfl q⟩
  show (0 ≤ (0 : Int32).toInt ∧ (0 : Int32).toInt ≤ 9) ∧ (0 ≤ (0 : Int32).toInt ∧ (0 : Int32).toInt ≤ 24)
  decide
theorem z_start {G : xG} {h1 h2 : xH} {sc pg sx sy al c0 c1 c2 c3 c4 c5 a0 a2 a3 a4 a5 a6 a8 a9 a10 a11 a12 a13 a14 a15 a17 a18 a19 a20 a21 a23 a24 a25 : Nat} (ho : xT3 G < sc ∧ sc < pg ∧ pg < sx ∧ sx < sy ∧ sy < al ∧ al < c0 ∧ c0 < c1 ∧ c1 < c2 ∧ c2 < c3 ∧ c3 < c4 ∧ c4 < c5 ∧ c5 < a0 ∧ a0 < a2 ∧ a2 < a3 ∧ a3 < a4 ∧ a4 < a5 ∧ a5 < a6 ∧ a6 < a8 ∧ a8 < a9 ∧ a9 < a10 ∧ a10 < a11 ∧ a11 < a12 ∧ a12 < a13 ∧ a13 < a14 ∧ a14 < a15 ∧ a15 < a17 ∧ a17 < a18 ∧ a18 < a19 ∧ a19 < a20 ∧ a20 < a21 ∧ a21 < a23 ∧ a23 < a24 ∧ a24 < a25) (hk : (h1 sc = some (xOb 6 [.ref pg, .ref al, .ref c0]) ∧ h1 pg = some (xPo sx sy xP0) ∧ h1 sx = some (xSc xP0.2.2.1) ∧ h1 sy = some (xSc xP0.2.2.2) ∧ h1 al = some (xAo (xT3 G) 0 0) ∧ h1 c0 = some (xOb 1 [.int 0, .ref c1, .ref c2, .ref c3, .ref c4, .ref c5]) ∧ h1 c1 = some (xRi G 20 (fun _ => 0)) ∧ h1 c2 = some (xRi G 20 (fun _ => 0)) ∧ h1 c3 = some (xRi G 20 (fun _ => 0)) ∧ h1 c4 = some (xRi G 20 (fun _ => 0)) ∧ h1 c5 = some (xRi G 20 (fun _ => 0)))) (hF : ∀ b cc, h1 b = some cc → b ≠ a0 → h2 b = some cc) (hm : (h2 a0 = some (xOb 7 [.int 20, .int 8, .ref a2, .ref a3, .ref a4, .ref a5, .ref a6, .int 0, .ref a8, .ref a9, .ref a10, .ref a11, .ref a12, .ref a13, .ref a14, .ref a15, .int 0, .ref a17, .ref a18, .ref a19, .ref a20, .ref a21, .int 0, .ref a23, .ref a24, .ref a25]) ∧ h2 a2 = some (xRi G 2 (fun _ => 0)) ∧ h2 a3 = some (xRi G 2 (fun _ => 0)) ∧ h2 a4 = some (xRi G 2 (upd (upd (fun _ => 0) (Int32.toNatClampNeg (0 : Int32)) (10 : Int32)) (Int32.toNatClampNeg (1 : Int32)) (10 : Int32))) ∧ h2 a5 = some (xRi G 2 (fun _ => 0)) ∧ h2 a6 = some (xRi G 2 (fun _ => 0)) ∧ h2 a8 = some (xRi G 6 (fun _ => 0)) ∧ h2 a9 = some (xRi G 6 (fun _ => 0)) ∧ h2 a10 = some (xRi G 6 (fun _ => 0)) ∧ h2 a11 = some (xRi G 6 (fun _ => 0)) ∧ h2 a12 = some (xRi G 144 (fun _ => 0)) ∧ h2 a13 = some (xRi G 144 (fun _ => 0)) ∧ h2 a14 = some (xRi G 144 (fun _ => 0)) ∧ h2 a15 = some (xRz G 144 (fun _ => 0)) ∧ h2 a17 = some (xRi G 20 (fun _ => 0)) ∧ h2 a18 = some (xRi G 20 (fun _ => 0)) ∧ h2 a19 = some (xRi G 20 (fun _ => 0)) ∧ h2 a20 = some (xRi G 20 (fun _ => 0)) ∧ h2 a21 = some (xRi G 20 (fun _ => 0)) ∧ h2 a23 = some (xRi G 3840 (fun _ => 0)) ∧ h2 a24 = some (xRi G 3840 (fun _ => 0)) ∧ h2 a25 = some (xRi G 24 (fun _ => 0)))) : zInv G sc a0 h2 := by
  let g : Nat → Nat := fun i => [xT3 G, sc, pg, sx, sy, al, c0, c1, c2, c3, c4, c5, a0, a2, a3, a4, a5, a6, a8, a9, a10, a11, a12, a13, a14, a15, a17, a18, a19, a20, a21, a23, a24, a25].getD i 0
  let C : Nat → Nat := fun i => [c0, c1, c2, c3, c4, c5].getD i 0
  let A : Nat → Nat := fun k => [a0, 0, a2, a3, a4, a5, a6, 0, a8, a9, a10, a11, a12, a13, a14, a15, 0, a17, a18, a19, a20, a21, 0, a23, a24, a25].getD k 0
  let B : Nat → Nat → Nat := fun _ _ => 0
  obtain ⟨o0, o1, o2, o3, o4, o5, o6, o7, o8, o9, o10, o11, o12, o13, o14, o15, o16, o17, o18, o19, o20, o21, o22, o23, o24, o25, o26, o27, o28, o29, o30, o31, o32⟩ := ho
  have hg : ∀ i, i + 1 < 34 → g i < g (i + 1) := fun i hi => by
    rcases (show i = 0 ∨ i = 1 ∨ i = 2 ∨ i = 3 ∨ i = 4 ∨ i = 5 ∨ i = 6 ∨ i = 7 ∨ i = 8 ∨ i = 9 ∨ i = 10 ∨ i = 11 ∨ i = 12 ∨ i = 13 ∨ i = 14 ∨ i = 15 ∨ i = 16 ∨ i = 17 ∨ i = 18 ∨ i = 19 ∨ i = 20 ∨ i = 21 ∨ i = 22 ∨ i = 23 ∨ i = 24 ∨ i = 25 ∨ i = 26 ∨ i = 27 ∨ i = 28 ∨ i = 29 ∨ i = 30 ∨ i = 31 ∨ i = 32 by omega) with rfl | rfl | rfl | rfl | rfl | rfl | rfl | rfl | rfl | rfl | rfl | rfl | rfl | rfl | rfl | rfl | rfl | rfl | rfl | rfl | rfl | rfl | rfl | rfl | rfl | rfl | rfl | rfl | rfl | rfl | rfl | rfl | rfl
    · exact o0
    · exact o1
    · exact o2
    · exact o3
    · exact o4
    · exact o5
    · exact o6
    · exact o7
    · exact o8
    · exact o9
    · exact o10
    · exact o11
    · exact o12
    · exact o13
    · exact o14
    · exact o15
    · exact o16
    · exact o17
    · exact o18
    · exact o19
    · exact o20
    · exact o21
    · exact o22
    · exact o23
    · exact o24
    · exact o25
    · exact o26
    · exact o27
    · exact o28
    · exact o29
    · exact o30
    · exact o31
    · exact o32
  have eg : ∀ t, zRl 0 t → zAd sc pg sx sy al (xT3 G) C B A t = g (zNo t) := by
    intro t ht
    rcases t with _ | _ | _ | _ | _ | _ | i | ⟨k, j⟩ | k
    · rfl
    · rfl
    · rfl
    · rfl
    · rfl
    · rfl
    · have ht : i < 6 := ht
      rcases (show i = 0 ∨ i = 1 ∨ i = 2 ∨ i = 3 ∨ i = 4 ∨ i = 5 by omega) with rfl | rfl | rfl | rfl | rfl | rfl <;> rfl
    · exact absurd ht.1 (Nat.not_lt_zero k)
    · have q := xMn_real ht
      rcases (show k = 0 ∨ k = 2 ∨ k = 3 ∨ k = 4 ∨ k = 5 ∨ k = 6 ∨ k = 8 ∨ k = 9 ∨ k = 10 ∨ k = 11 ∨ k = 12 ∨ k = 13 ∨ k = 14 ∨ k = 15 ∨ k = 17 ∨ k = 18 ∨ k = 19 ∨ k = 20 ∨ k = 21 ∨ k = 23 ∨ k = 24 ∨ k = 25 by omega) with rfl | rfl | rfl | rfl | rfl | rfl | rfl | rfl | rfl | rfl | rfl | rfl | rfl | rfl | rfl | rfl | rfl | rfl | rfl | rfl | rfl | rfl <;> rfl
  have gm := fun {i j : Nat} (hj : j < 34) (h : i < j) => z_mono2 hg hj h
  obtain ⟨xD', xA', xj'⟩ := z_ext (sc := sc) (pg := pg) (sx := sx) (sy := sy) (al := al) (ed := xT3 G) (C := C) (B := B) (A := A) (N := 0) (M := a25 + 1) (fun t ht => by
    rw [eg t ht]
    have q := zNo_b ht
    have z : g (zNo t) ≤ g 33 := by
      rcases Nat.lt_or_ge (zNo t) 33 with q2 | q2
      · exact Nat.le_of_lt (gm (by omega) q2)
      · rw [show zNo t = 33 by omega]; exact Nat.le_refl _
    have e : g 33 = a25 := rfl
    omega) (fun a b ha hb e => by
    rw [eg a ha, eg b hb] at e
    have qa := zNo_b ha
    have qb := zNo_b hb
    refine zNo_inj ha hb ?_
    rcases Nat.lt_trichotomy (zNo a) (zNo b) with q | q | q
    · have := gm qb q; omega
    · exact q
    · have := gm qa q; omega)
  have la : ∀ {x cc}, h1 x = some cc → x < a0 → h2 x = some cc := fun {x cc} e q => hF x cc e (by omega)
  obtain ⟨k1, k2, k3, k4, k5, k6, k7, k8, k9, k10, k11⟩ := hk
  have hK : xCls G sc pg sx sy al (xT3 G) C B xP0 0 (fun _ _ => 0) 0 0 (fun _ => (0, 0, 0, 0, 0)) (fun _ _ _ => 0) h2 :=
    ⟨la k1 (gm (i := 1) (j := 12) (by omega) (by omega)), ⟨la k2 (gm (i := 2) (j := 12) (by omega) (by omega)), la k3 (gm (i := 3) (j := 12) (by omega) (by omega)), la k4 (gm (i := 4) (j := 12) (by omega) (by omega))⟩, ⟨la k6 (gm (i := 6) (j := 12) (by omega) (by omega)), la k7 (gm (i := 7) (j := 12) (by omega) (by omega)), la k8 (gm (i := 8) (j := 12) (by omega) (by omega)), la k9 (gm (i := 9) (j := 12) (by omega) (by omega)), la k10 (gm (i := 10) (j := 12) (by omega) (by omega)), la k11 (gm (i := 11) (j := 12) (by omega) (by omega))⟩, la k5 (gm (i := 5) (j := 12) (by omega) (by omega)), fun q => absurd rfl q, fun k hk => absurd hk (Nat.not_lt_zero k), Nat.zero_le 6⟩
  obtain ⟨m0, m2, m3, m4, m5, m6, m8, m9, m10, m11, m12, m13, m14, m15, m17, m18, m19, m20, m21, m23, m24, m25⟩ := hm
  have hM : xMod G A (20, 8, 0, 0, 0) zX0 h2 := by
    refine ⟨m0, fun k hk => ?_⟩
    have q := xMn_real (Or.inr hk)
    rcases (show k = 0 ∨ k = 2 ∨ k = 3 ∨ k = 4 ∨ k = 5 ∨ k = 6 ∨ k = 8 ∨ k = 9 ∨ k = 10 ∨ k = 11 ∨ k = 12 ∨ k = 13 ∨ k = 14 ∨ k = 15 ∨ k = 17 ∨ k = 18 ∨ k = 19 ∨ k = 20 ∨ k = 21 ∨ k = 23 ∨ k = 24 ∨ k = 25 by omega) with rfl | rfl | rfl | rfl | rfl | rfl | rfl | rfl | rfl | rfl | rfl | rfl | rfl | rfl | rfl | rfl | rfl | rfl | rfl | rfl | rfl | rfl
    · exact absurd rfl hk
    · exact m2
    · exact m3
    · exact m4
    · exact m5
    · exact m6
    · exact m8
    · exact m9
    · exact m10
    · exact m11
    · exact m12
    · exact m13
    · exact m14
    · exact m15
    · exact m17
    · exact m18
    · exact m19
    · exact m20
    · exact m21
    · exact m23
    · exact m24
    · exact m25
  exact ⟨pg, sx, sy, al, xT3 G, eC9 (a25 + 1) C, eB9 (a25 + 1) 0 B, xP0, 0, fun _ _ => 0, 0, 0, fun _ => (0, 0, 0, 0, 0), fun _ _ _ => 0, eA9 (a25 + 1) A, (20, 8, 0, 0, 0), zX0, 20, 8, 0, eA9_r (Or.inl rfl), hK.adr, hM.adr, xD', xA', xj', z_rel0, fun _ => rfl⟩
