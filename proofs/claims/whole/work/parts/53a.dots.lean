/-! PURE: dots, lines, bars: the class's sheet beside the reference's -/
theorem fa_or (a b : Nat) : nI a ||| nI b = nI (a ||| b) := by
  apply Int32.toBitVec_inj.1
  show BitVec.ofNat 32 a ||| BitVec.ofNat 32 b = BitVec.ofNat 32 (a ||| b)
  apply BitVec.eq_of_getLsbD_eq
  intro i hi
  simp [hi]
theorem fa_or_sum {a k : Nat} (b : Nat) (h : a < 2 ^ k) : nI (2 ^ k * b) ||| nI a = nI (2 ^ k * b + a) := by rw [fa_or, Nat.two_pow_add_eq_or_of_lt h]
theorem zb1 : ∀ t, t < 24 → ((1 : Int32) <<< (nI t &&& 31)) = nI (2 ^ t) := by decide
/-- a dot on the canvas -/
def zPt (cn rn : Nat) (x y : Int32) : Prop := 0 ≤ x.toInt ∧ x.toInt < 2 * cn ∧ 0 ≤ y.toInt ∧ y.toInt < 4 * rn
theorem z_nat {x : Int32} {n : Nat} (h0 : 0 ≤ x.toInt) (h1 : x.toInt < n) (hn : n < 2 ^ 31) : ∃ a : Nat, a < n ∧ x = nI a := vp_in_of (vp_in_iff.mpr ⟨h0, h1⟩) hn
section ZP
variable {cn rn : Nat} {p : xPv} {J : xMi} {x y : Int32}
/-- sizes -/
def zDim (cn rn : Nat) (p : xPv) (J : xMi) : Prop := (p.1 = nI cn ∧ p.2.1 = nI rn ∧ J.1 = nI cn ∧ J.2.1 = nI rn) ∧ 4 ≤ cn ∧ cn ≤ 40 ∧ 2 ≤ rn ∧ rn ≤ 16
theorem z_cn (hd : zDim cn rn p J) : cn * rn ≤ 640 := Nat.mul_le_mul hd.2.2.1 hd.2.2.2.2
theorem z_cell0 {a b : Nat} (hd : zDim cn rn p J) (ha : a < 2 * cn) (hb : b < 4 * rn) : (rn - 1 - b / 4) * cn + a / 2 < cn * rn := by
  have h1 : (rn - 1 - b / 4) * cn ≤ (rn - 1) * cn := Nat.mul_le_mul_right _ (by omega)
  have h2 : (rn - 1) * cn + cn = cn * rn := by
    have := hd.2.2.2.1
    rw [← Nat.succ_mul, Nat.succ_eq_add_one, show rn - 1 + 1 = rn by omega, Nat.mul_comm]
  omega
theorem z_cell (hd : zDim cn rn p J) (h : zPt cn rn x y) : ∃ c : Nat, c < cn * rn ∧ dcell p x y = nI c ∧ ∀ k, k < 6 → mcell J (nI k) x y = nI (640 * k + c) := by
  obtain ⟨h1, h2, h3, h4⟩ := h
  have d := hd.2
  obtain ⟨a, ha, rfl⟩ := z_nat h1 (n := 2 * cn) (by omega) (by omega)
  obtain ⟨b, hb, rfl⟩ := z_nat h3 (n := 4 * rn) (by omega) (by omega)
  have e1 : (nI rn - 1 : Int32) = nI (rn - 1) := pk_sub (a := rn) (b := 1) (by omega)
  have e2 : nI b / 4 = nI (b / 4) := pk_div (d := 4) (by omega) (by omega) (by omega)
  have e3 : nI a / 2 = nI (a / 2) := pk_div (d := 2) (by omega) (by omega) (by omega)
  have e4 : (nI (rn - 1) - nI (b / 4) : Int32) = nI (rn - 1 - b / 4) := pk_sub (by omega)
  refine ⟨_, z_cell0 hd ha hb, ?_, fun k hk => ?_⟩
  · unfold dcell FX1_cellAt FX1_columnOf FX1_rowOf
    rw [hd.1.1, hd.1.2.1, e1, e2, e3, e4, pk_mul, nI_add]
  · unfold mcell
    rw [hd.1.2.2.1, hd.1.2.2.2, e1, e2, e3, e4, pk_mul, nI_add, show (640 : Int32) = nI 640 from rfl, pk_mul, nI_add]
theorem zbits : ∀ a, a < 2 → ∀ b, b < 4 → xBits.getD (Int32.toNatClampNeg (((4 * nI a) + 3) - nI b)) 0 = (if ((3 : Int32) - nI b) = (3 : Int32) then ((64 : Int32) <<< (nI a &&& 31)) else ((1 : Int32) <<< ((((3 : Int32) - nI b) + ((3 : Int32) * nI a)) &&& 31))) ∧ ∃ c, c < 256 ∧ 0 < c ∧ xBits.getD (Int32.toNatClampNeg (((4 * nI a) + 3) - nI b)) 0 = nI c := by decide +kernel
theorem z_bit (hd : zDim cn rn p J) (h : zPt cn rn x y) : mbit x y = dbit x y ∧ ∃ c : Nat, c < 256 ∧ 0 < c ∧ dbit x y = nI c := by
  obtain ⟨h1, h2, h3, h4⟩ := h
  have d := hd.2
  obtain ⟨a, ha, rfl⟩ := z_nat h1 (n := 2 * cn) (by omega) (by omega)
  obtain ⟨b, hb, rfl⟩ := z_nat h3 (n := 4 * rn) (by omega) (by omega)
  have e1 : nI a &&& 1 = nI (a % 2) := pk_andN (by omega) 1 (by decide)
  have e2 : nI b &&& 3 = nI (b % 4) := pk_andN (by omega) 2 (by decide)
  have e3 : nI a - nI a / 2 * 2 = nI (a % 2) := pk_rem (d := 2) (by omega) (by omega) (by omega)
  have e4 : nI b - nI b / 4 * 4 = nI (b % 4) := pk_rem (d := 4) (by omega) (by omega) (by omega)
  unfold mbit dbit
  rw [e1, e2, e3, e4]
  have z := zbits (a % 2) (by omega) (b % 4) (by omega)
  exact ⟨z.1.symm, z.2⟩
end ZP
/-- the sheet of series k in the class (r) and in the reference (r'); M its mark, g its sign -/
def zDr (cn rn : Nat) (M g : Int32) (k : Nat) (r r' : xR2) : Prop := ∀ q, q < 640 → r'.2 (640 * k + q) = r.2 q ∧ ∃ a b : Nat, r.2 q = nI a ∧ r.1 q = nI b ∧ a < 2 ^ 24 ∧ b < 256 ∧ (cn * rn ≤ q → a = 0) ∧ (a = 0 → b = 0 ∧ r'.1 (640 * k + q) = 0) ∧ (a ≠ 0 → r'.1 (640 * k + q) = (if M = 0 then g else if M = 3 then nI (9600 + b) else nI (10240 + b)) ∧ (M = 3 → 1 ≤ b))
/-- nothing of other series has changed -/
def zOut (k : Nat) (r r' : xR2) : Prop := ∀ z, (z < 640 * k ∨ 640 * k + 640 ≤ z) → r'.1 z = r.1 z ∧ r'.2 z = r.2 z
theorem zOut.rf {k : Nat} {r : xR2} : zOut k r r := fun _ _ => ⟨rfl, rfl⟩
theorem zOut.tr {k : Nat} {r r1 r2 : xR2} (a : zOut k r r1) (b : zOut k r1 r2) : zOut k r r2 := fun z h => ⟨(b z h).1.trans (a z h).1, (b z h).2.trans (a z h).2⟩
theorem zOut.up {k c : Nat} {r : xR2} {u v : Int32} (hc : c < 640) : zOut k r (upd r.1 (640 * k + c) u, upd r.2 (640 * k + c) v) := fun z h => ⟨pk_un (by omega), pk_un (by omega)⟩
section ZD
variable {cn rn : Nat} {M g : Int32} {k : Nat} {r r' : xR2}
theorem zDr.up (h : zDr cn rn M g k r r') (h640 : cn * rn ≤ 640) {c t b : Nat} {u : Int32} (hc : c < cn * rn) (ht : t < 24) (hb : b < 256) (hu : u = (if M = 0 then g else if M = 3 then nI (9600 + b) else nI (10240 + b))) (h3 : M = 3 → 1 ≤ b) : zDr cn rn M g k (upd r.1 c (nI b), dHit r.2 (nI c) (nI t)) (upd r'.1 (640 * k + c) u, upd r'.2 (640 * k + c) ((r'.2 (640 * k + c)) ||| ((1 : Int32) <<< (nI t &&& 31)))) := by
  intro q hq
  have h0 := h q hq
  have ec : (nI c).toNatClampNeg = c := nI_clamp (by omega)
  by_cases e : q = c
  · subst e
    obtain ⟨h1, a, b0, h2, h4, h5, h6, h7, h8, h9⟩ := h0
    have e1 : dHit r.2 (nI q) (nI t) q = r.2 q ||| ((1 : Int32) <<< (nI t &&& 31)) := by unfold dHit; rw [ec, pk_us]
    refine ⟨?_, a ||| 2 ^ t, b, ?_, ?_, ?_, hb, ?_, ?_, ?_⟩
    · show upd r'.2 (640 * k + q) _ (640 * k + q) = dHit r.2 (nI q) (nI t) q
      rw [pk_us, e1, h1]
    · show dHit r.2 (nI q) (nI t) q = _
      rw [e1, zb1 t ht, h2, fa_or]
    · show upd r.1 q (nI b) q = _
      rw [pk_us]
    · exact Nat.or_lt_two_pow h5 (Nat.pow_lt_pow_right (by decide) ht)
    · intro z; omega
    · intro z
      exfalso
      have : (a ||| 2 ^ t).testBit t = true := by rw [Nat.testBit_or, Nat.testBit_two_pow_self, Bool.or_true]
      rw [z] at this; simp at this
    · intro _
      refine ⟨?_, h3⟩
      show upd r'.1 (640 * k + q) u (640 * k + q) = _
      rw [pk_us, hu]
  · have e1 : dHit r.2 (nI c) (nI t) q = r.2 q := by unfold dHit; rw [ec, pk_un e]
    have e2 : 640 * k + q ≠ 640 * k + c := by omega
    show upd r'.2 (640 * k + c) _ (640 * k + q) = dHit r.2 (nI c) (nI t) q ∧ ∃ a b9 : Nat, dHit r.2 (nI c) (nI t) q = nI a ∧ upd r.1 c (nI b) q = nI b9 ∧ a < 2 ^ 24 ∧ b9 < 256 ∧ (cn * rn ≤ q → a = 0) ∧ (a = 0 → b9 = 0 ∧ upd r'.1 (640 * k + c) u (640 * k + q) = 0) ∧ (a ≠ 0 → upd r'.1 (640 * k + c) u (640 * k + q) = (if M = 0 then g else if M = 3 then nI (9600 + b9) else nI (10240 + b9)) ∧ (M = 3 → 1 ≤ b9))
    rw [e1, pk_un e2, pk_un e, pk_un e2]
    exact h0
/-- a dot -/
theorem z_dotR {p : xPv} {J : xMi} {x y : Int32} {t : Nat} (hd : zDim cn rn p J) (hk : k < 6) (hM0 : ¬ M = 0) (hM3 : ¬ M = 3) (ht : t < 24) (hp : zPt cn rn x y) (h : zDr cn rn M g k r r') : zDr cn rn M g k (dotR p r x y (nI t)) (mdotR J r' (nI k) (nI t) x y) ∧ zOut k r' (mdotR J r' (nI k) (nI t) x y) := by
  obtain ⟨c, hc, e1, e2⟩ := z_cell hd hp
  have h640 := z_cn hd
  have e2 := e2 k hk
  obtain ⟨eb, b1, hb1, hb0, eb1⟩ := z_bit hd hp
  have ec : (nI c).toNatClampNeg = c := nI_clamp (by omega)
  have ec2 : (nI (640 * k + c)).toNatClampNeg = 640 * k + c := nI_clamp (by omega)
  obtain ⟨h1, a, b, h2, h4, h5, h6, h7, h8, h9⟩ := h c (by omega)
  have eR : dotR p r x y (nI t) = (upd r.1 c (nI (b ||| b1)), dHit r.2 (nI c) (nI t)) := by
    unfold dotR dInk
    rw [e1, ec, eb1, h4, fa_or]
  have eU : ((if (10240 : Int32) ≤ r'.1 (640 * k + c) then r'.1 (640 * k + c) else (10240 : Int32)) ||| mbit x y) = nI (10240 + (b ||| b1)) := by
    have h10 : ∀ z : Nat, z < 256 → nI (10240 + z) = nI 10240 ||| nI z := fun z hz => (fa_or_sum (k := 8) 40 hz).symm
    rw [eb, eb1]
    by_cases ha : a = 0
    · rw [(h8 ha).2, if_neg (by decide), (h8 ha).1, Nat.zero_or, h10 b1 hb1]; rfl
    · have z := (h9 ha).1
      rw [if_neg hM0, if_neg hM3] at z
      rw [z, if_pos (show (10240 : Int32) ≤ nI (10240 + b) from nI_le (a := 10240) (b := 10240 + b) (by omega) (by omega)), h10 b h6, h10 (b ||| b1) (Nat.or_lt_two_pow (n := 8) h6 hb1), fa_or, fa_or, fa_or, Nat.or_assoc]
  have eM : mdotR J r' (nI k) (nI t) x y = (upd r'.1 (640 * k + c) (nI (10240 + (b ||| b1))), upd r'.2 (640 * k + c) ((r'.2 (640 * k + c)) ||| ((1 : Int32) <<< (nI t &&& 31)))) := by
    unfold mdotR dHit
    rw [e2, ec2, eU]
  rw [eR, eM]
  exact ⟨h.up h640 hc ht (Nat.or_lt_two_pow (n := 8) h6 hb1) (by rw [if_neg hM0, if_neg hM3]) (fun z => absurd z hM3), zOut.up (by omega)⟩
end ZD
-- ---- lines
theorem z_abs {a b : Int32} (ha : 0 ≤ a.toInt ∧ a.toInt < 1000) (hb : 0 ≤ b.toInt ∧ b.toInt < 1000) : ((if 0 ≤ (b - a) then (b - a) else 0 - (b - a)) : Int32).toInt = (if a.toInt ≤ b.toInt then b.toInt - a.toInt else a.toInt - b.toInt) ∧ ((if b ≤ a then (a - b) else (b - a)) : Int32).toInt = (if a.toInt ≤ b.toInt then b.toInt - a.toInt else a.toInt - b.toInt) := by
  have e1 : (b - a).toInt = b.toInt - a.toInt := fb_subI (by omega) (by omega)
  have e2 : (a - b).toInt = a.toInt - b.toInt := fb_subI (by omega) (by omega)
  have e3 : (0 - (b - a)).toInt = -(b.toInt - a.toInt) := by rw [fb_subI] <;> rw [zi0, e1] <;> omega
  constructor
  · by_cases h : 0 ≤ b - a
    · rw [if_pos h, e1, if_pos (by rw [fa_le, e1, zi0] at h; omega)]
    · rw [if_neg h, e3, if_neg (by rw [fa_le, e1, zi0] at h; omega)]; omega
  · by_cases h : b ≤ a
    · rw [if_pos h, e2]; rw [fa_le] at h; split <;> omega
    · rw [if_neg h, e1, if_pos (by rw [fa_le] at h; omega)]
/-- how many steps a line has -/
def zLn (fx fy tx ty : Int32) : Int := if (if fx.toInt ≤ tx.toInt then tx.toInt - fx.toInt else fx.toInt - tx.toInt) ≤ (if fy.toInt ≤ ty.toInt then ty.toInt - fy.toInt else fy.toInt - ty.toInt) then (if fy.toInt ≤ ty.toInt then ty.toInt - fy.toInt else fy.toInt - ty.toInt) else (if fx.toInt ≤ tx.toInt then tx.toInt - fx.toInt else fx.toInt - tx.toInt)
theorem z_ln {fx fy tx ty : Int32} (h1 : 0 ≤ fx.toInt ∧ fx.toInt < 1000) (h2 : 0 ≤ fy.toInt ∧ fy.toInt < 1000) (h3 : 0 ≤ tx.toInt ∧ tx.toInt < 1000) (h4 : 0 ≤ ty.toInt ∧ ty.toInt < 1000) : (lnN fx fy tx ty).toInt = zLn fx fy tx ty ∧ mlnN fx fy tx ty = lnN fx fy tx ty := by
  have a1 := z_abs h1 h3
  have a2 := z_abs h2 h4
  have e : (lnN fx fy tx ty).toInt = zLn fx fy tx ty := by
    unfold lnN zLn
    rw [← a1.1, ← a2.1]
    generalize (if 0 ≤ (tx - fx) then (tx - fx) else 0 - (tx - fx)) = A9
    generalize (if 0 ≤ (ty - fy) then (ty - fy) else 0 - (ty - fy)) = B9
    by_cases z : A9 < B9
    · rw [if_pos z, if_pos (by rw [fa_lt] at z; omega)]
    · rw [if_neg z]
      rw [fa_lt] at z
      split <;> omega
  refine ⟨e, zinj ?_⟩
  rw [e]
  unfold mlnN zLn
  rw [← a1.2, ← a2.2]
  generalize (if tx ≤ fx then (fx - tx) else (tx - fx)) = A9
  generalize (if ty ≤ fy then (fy - ty) else (ty - fy)) = B9
  by_cases z : A9 ≤ B9
  · rw [if_pos z, if_pos (by rw [fa_le] at z; exact z)]
  · rw [if_neg z, if_neg (by rw [fa_le] at z; exact z)]
/-- a point of a line -/
theorem z_lx {a b m : Int32} {j : Nat} (ha : 0 ≤ a.toInt ∧ a.toInt < 1000) (hb : 0 ≤ b.toInt ∧ b.toInt < 1000) (hm : 0 < m.toInt) (hm2 : m.toInt < 1000) (hD : b.toInt - a.toInt ≤ m.toInt ∧ a.toInt - b.toInt ≤ m.toInt) (hj : (j : Int) ≤ m.toInt) : lnX a b m (nI j) = a + mlnD a b m (nI j) ∧ ((a.toInt ≤ (lnX a b m (nI j)).toInt ∧ (lnX a b m (nI j)).toInt ≤ b.toInt) ∨ (b.toInt ≤ (lnX a b m (nI j)).toInt ∧ (lnX a b m (nI j)).toInt ≤ a.toInt)) := by
  have ej : (nI j).toInt = (j : Int) := nI_toInt (by omega)
  have e1 : (b - a).toInt = b.toInt - a.toInt := fb_subI (by omega) (by omega)
  have e2 : (2 * nI j).toInt = 2 * (j : Int) := by rw [fb_mulI] <;> rw [zi2, ej] <;> omega
  have p1 : (2 * (j : Int)) * (b.toInt - a.toInt) ≤ 2000 * 1000 := by
    by_cases z : 0 ≤ b.toInt - a.toInt
    · exact zmul_le (by omega) (by omega) z (by omega)
    · have := Int.mul_nonpos_of_nonneg_of_nonpos (show 0 ≤ 2 * (j : Int) by omega) (show b.toInt - a.toInt ≤ 0 by omega); omega
  have p0 : -(2000 * 1000) ≤ (2 * (j : Int)) * (b.toInt - a.toInt) := by
    by_cases z : 0 ≤ b.toInt - a.toInt
    · have := Int.mul_nonneg (show 0 ≤ 2 * (j : Int) by omega) z; omega
    · have := zmul_le (a := 2 * (j : Int)) (b := 2000) (c := a.toInt - b.toInt) (d := 1000) (by omega) (by omega) (by omega) (by omega)
      have e : (2 * (j : Int)) * (a.toInt - b.toInt) = -((2 * (j : Int)) * (b.toInt - a.toInt)) := by rw [← Int.mul_neg]; congr 1; omega
      omega
  have e3 : ((2 * nI j) * (b - a)).toInt = (2 * (j : Int)) * (b.toInt - a.toInt) := by rw [fb_mulI] <;> rw [e2, e1] <;> omega
  have e4 : (((2 * nI j) * (b - a)) + m).toInt = (2 * (j : Int)) * (b.toInt - a.toInt) + m.toInt := by rw [fb_addI] <;> rw [e3] <;> omega
  have e5 : (2 * m).toInt = 2 * m.toInt := by rw [fb_mulI] <;> rw [zi2] <;> omega
  have e6 := zfd (a := ((2 * nI j) * (b - a)) + m) (b := 2 * m) (by omega)
  have e7 := zffl (v := ((2 * nI j) * (b - a)) + m) (t := 2 * m) (by omega) (by omega)
  rw [e4, e5] at e6
  generalize hE : (2 * (j : Int)) * (b.toInt - a.toInt) = E at *
  have q : (0 ≤ (E + m.toInt) / (2 * m.toInt) ∧ (E + m.toInt) / (2 * m.toInt) ≤ b.toInt - a.toInt) ∨ (b.toInt - a.toInt ≤ (E + m.toInt) / (2 * m.toInt) ∧ (E + m.toInt) / (2 * m.toInt) ≤ 0) := by
    by_cases z : 0 ≤ b.toInt - a.toInt
    · left
      have s0 : 0 ≤ E := by rw [← hE]; exact Int.mul_nonneg (by omega) z
      have s1 : E ≤ (2 * m.toInt) * (b.toInt - a.toInt) := by rw [← hE]; exact Int.mul_le_mul_of_nonneg_right (by omega) z
      refine ⟨Int.ediv_nonneg (by omega) (by omega), ?_⟩
      have : (E + m.toInt) / (2 * m.toInt) < b.toInt - a.toInt + 1 := Int.ediv_lt_of_lt_mul (by omega) (by rw [Int.add_mul, Int.one_mul, Int.mul_comm (b.toInt - a.toInt)]; omega)
      omega
    · right
      have s1 : (2 * m.toInt) * (b.toInt - a.toInt) ≤ E := by rw [← hE]; exact Int.mul_le_mul_of_nonpos_right (by omega) (by omega)
      have s0 : E ≤ 0 := by rw [← hE]; exact Int.mul_nonpos_of_nonneg_of_nonpos (by omega) (by omega)
      refine ⟨Int.le_ediv_of_mul_le (by omega) (by rw [Int.mul_comm]; omega), ?_⟩
      have : (E + m.toInt) / (2 * m.toInt) < 1 := Int.ediv_lt_of_lt_mul (by omega) (by omega)
      omega
  have e8 : (lnX a b m (nI j)).toInt = a.toInt + (E + m.toInt) / (2 * m.toInt) := by
    unfold lnX
    rw [fb_addI] <;> rw [e6] <;> omega
  refine ⟨?_, by rw [e8]; omega⟩
  unfold lnX mlnD
  rw [if_neg (fun z => by rw [z, zi0] at hm; omega), e7]
section ZL
variable {cn rn : Nat} {p : xPv} {J : xMi} {fx fy tx ty : Int32}
theorem zPt.b {x y : Int32} (hd : zDim cn rn p J) (h : zPt cn rn x y) : (0 ≤ x.toInt ∧ x.toInt < 1000) ∧ (0 ≤ y.toInt ∧ y.toInt < 1000) := by
  have := hd.2
  obtain ⟨h1, h2, h3, h4⟩ := h
  omega
theorem zLn_b : tx.toInt - fx.toInt ≤ zLn fx fy tx ty ∧ fx.toInt - tx.toInt ≤ zLn fx fy tx ty ∧ ty.toInt - fy.toInt ≤ zLn fx fy tx ty ∧ fy.toInt - ty.toInt ≤ zLn fx fy tx ty ∧ 0 ≤ zLn fx fy tx ty := by
  unfold zLn
  repeat' split
  all_goals omega
theorem zLn_lt {B : Int} (h1 : 0 ≤ fx.toInt ∧ fx.toInt < B) (h2 : 0 ≤ fy.toInt ∧ fy.toInt < B) (h3 : 0 ≤ tx.toInt ∧ tx.toInt < B) (h4 : 0 ≤ ty.toInt ∧ ty.toInt < B) : zLn fx fy tx ty < B := by
  unfold zLn
  repeat' split
  all_goals omega
/-- all dots of a line lie on the canvas, and the reference has the same -/
theorem z_lp (hd : zDim cn rn p J) (hf : zPt cn rn fx fy) (ht : zPt cn rn tx ty) {j : Nat} (hj : (j : Int) ≤ zLn fx fy tx ty) (hm : ¬ lnN fx fy tx ty = 0) : zPt cn rn (lnX fx tx (lnN fx fy tx ty) (nI j)) (lnX fy ty (lnN fx fy tx ty) (nI j)) ∧ lnX fx tx (lnN fx fy tx ty) (nI j) = fx + mlnD fx tx (lnN fx fy tx ty) (nI j) ∧ lnX fy ty (lnN fx fy tx ty) (nI j) = fy + mlnD fy ty (lnN fx fy tx ty) (nI j) := by
  have bf := hf.b hd
  have bt := ht.b hd
  have e := (z_ln bf.1 bf.2 bt.1 bt.2).1
  have b := zLn_b (fx := fx) (fy := fy) (tx := tx) (ty := ty)
  have lt := zLn_lt bf.1 bf.2 bt.1 bt.2
  have pos : 0 < zLn fx fy tx ty := by
    have : (lnN fx fy tx ty).toInt ≠ 0 := fun z => hm (zinj z)
    omega
  have x1 := z_lx (m := lnN fx fy tx ty) (j := j) bf.1 bt.1 (by omega) (by omega) (by omega) (by omega)
  have x2 := z_lx (m := lnN fx fy tx ty) (j := j) bf.2 bt.2 (by omega) (by omega) (by omega) (by omega)
  obtain ⟨f1, f2, f3, f4⟩ := hf
  obtain ⟨t1, t2, t3, t4⟩ := ht
  exact ⟨⟨by omega, by omega, by omega, by omega⟩, x1.1, x2.1⟩
theorem z_vp {x : Int32} {c : Nat} (e : x = nI c) {n : Nat} (h : c < n) (hn : n < 2 ^ 31) : vp_in x n := by rw [e]; exact vp_in_nI h hn
theorem z_lnOk (hd : zDim cn rn p J) (hf : zPt cn rn fx fy) (ht : zPt cn rn tx ty) : lnOk p fx fy tx ty := by
  have bf := hf.b hd
  have bt := ht.b hd
  have e := (z_ln bf.1 bf.2 bt.1 bt.2).1
  have b := zLn_b (fx := fx) (fy := fy) (tx := tx) (ty := ty)
  have lt := zLn_lt bf.1 bf.2 bt.1 bt.2
  have h640 := z_cn hd
  have cl : (lnN fx fy tx ty).toNatClampNeg = (zLn fx fy tx ty).toNat := by unfold Int32.toNatClampNeg; rw [e]
  refine ⟨by rw [fa_lt, zi0]; omega, ?_, fun j hj hm => ?_, by rw [cl]; omega⟩
  · obtain ⟨c, hc, e1, -⟩ := z_cell hd ht
    exact z_vp e1 (by omega) (by decide)
  · obtain ⟨c, hc, e1, -⟩ := z_cell hd (z_lp hd hf ht (j := j) (by omega) hm).1
    exact z_vp e1 (by omega) (by decide)
theorem z_mlnOk (hd : zDim cn rn p J) (hf : zPt cn rn fx fy) (ht : zPt cn rn tx ty) {k : Nat} (hk : k < 6) : mlnOk J (nI k) fx fy tx ty := by
  have bf := hf.b hd
  have bt := ht.b hd
  have e := z_ln bf.1 bf.2 bt.1 bt.2
  have b := zLn_b (fx := fx) (fy := fy) (tx := tx) (ty := ty)
  have lt := zLn_lt bf.1 bf.2 bt.1 bt.2
  have h640 := z_cn hd
  have cl : (lnN fx fy tx ty).toNatClampNeg = (zLn fx fy tx ty).toNat := by unfold Int32.toNatClampNeg; rw [e.1]
  unfold mlnOk
  rw [e.2]
  refine ⟨by rw [fa_lt, zi0]; omega, by rw [cl]; omega, fun j hj => ?_⟩
  by_cases hm : lnN fx fy tx ty = 0
  · have z : ∀ a b : Int32, mlnD a b (lnN fx fy tx ty) (nI j) = 0 := fun a b => by unfold mlnD; rw [if_pos hm]
    rw [z, z, Int32.add_zero, Int32.add_zero]
    obtain ⟨c, hc, -, e2⟩ := z_cell hd hf
    exact z_vp (e2 k hk) (by omega) (by decide)
  · have z := z_lp hd hf ht (j := j) (by omega) hm
    rw [← z.2.1, ← z.2.2]
    obtain ⟨c, hc, -, e2⟩ := z_cell hd z.1
    exact z_vp (e2 k hk) (by omega) (by decide)
theorem z_line {M g : Int32} {k t : Nat} {r r' : xR2} (hd : zDim cn rn p J) (hk : k < 6) (hM0 : ¬ M = 0) (hM3 : ¬ M = 3) (ht24 : t < 24) (hf : zPt cn rn fx fy) (ht : zPt cn rn tx ty) (h : zDr cn rn M g k r r') : zDr cn rn M g k (FX4_line p r fx fy tx ty (nI t)) (FX6_lineOf J r' (nI k) (nI t) fx fy tx ty) ∧ zOut k r' (FX6_lineOf J r' (nI k) (nI t) fx fy tx ty) := by
  have bf := hf.b hd
  have bt := ht.b hd
  have e := z_ln bf.1 bf.2 bt.1 bt.2
  have b := zLn_b (fx := fx) (fy := fy) (tx := tx) (ty := ty)
  have cl : (lnN fx fy tx ty).toNatClampNeg = (zLn fx fy tx ty).toNat := by unfold Int32.toNatClampNeg; rw [e.1]
  unfold FX4_line FX6_lineOf
  rw [e.2]
  by_cases hm : lnN fx fy tx ty = 0
  · rw [if_pos hm]
    have e0 : zLn fx fy tx ty = 0 := by rw [← e.1, hm]; rfl
    have ex : fx = tx := zinj (by omega)
    have ey : fy = ty := zinj (by omega)
    have z : ∀ a b : Int32, mlnD a b (lnN fx fy tx ty) (nI 0) = 0 := fun a b => by unfold mlnD; rw [if_pos hm]
    rw [cl, e0, show (0 : Int).toNat + 1 = 0 + 1 from rfl, LX6_line, LX6_line, z, z, Int32.add_zero, Int32.add_zero, ex, ey]
    exact z_dotR hd hk hM0 hM3 ht24 ht h
  · rw [if_neg hm]
    have key : ∀ (n9 j : Nat) (r r' : xR2), j + n9 = (zLn fx fy tx ty).toNat + 1 → zDr cn rn M g k r r' → zDr cn rn M g k (LX4_line p fx fy tx ty (nI t) (lnN fx fy tx ty) n9 j r) (LX6_line J (nI k) (nI t) fx fy tx ty (lnN fx fy tx ty) n9 j r') ∧ zOut k r' (LX6_line J (nI k) (nI t) fx fy tx ty (lnN fx fy tx ty) n9 j r') := by
      intro n9
      induction n9 with
      | zero => intro j r r' _ h; rw [LX4_line, LX6_line]; exact ⟨h, zOut.rf⟩
      | succ n9 ih =>
        intro j r r' hj h
        have z := z_lp hd hf ht (j := j) (by omega) hm
        rw [LX4_line, LX6_line, ← z.2.1, ← z.2.2]
        have s := z_dotR hd hk hM0 hM3 ht24 z.1 h
        have s2 := ih (j + 1) _ _ (by omega) s.1
        exact ⟨s2.1, s.2.tr s2.2⟩
    rw [cl]
    exact key _ 0 r r' (by omega) h
end ZL
-- ---- bars
section ZB
variable {cn rn : Nat} {p : xPv} {J : xMi} {x y : Int32}
theorem z_bcell (hd : zDim cn rn p J) (hx : 0 ≤ x.toInt ∧ x.toInt < 2 * cn) {m : Nat} (hm : m < rn) : ∃ c : Nat, c < cn * rn ∧ FX1_cellAt p (FX1_columnOf p x) (nI m) = nI c ∧ ∀ k, k < 6 → mbcell J (nI k) x (nI m) = nI (640 * k + c) := by
  have d := hd.2
  obtain ⟨a, ha, rfl⟩ := z_nat hx.1 (n := 2 * cn) (by omega) (by omega)
  have e3 : nI a / 2 = nI (a / 2) := pk_div (d := 2) (by omega) (by omega) (by omega)
  have h1 : m * cn ≤ (rn - 1) * cn := Nat.mul_le_mul_right _ (by omega)
  have h2 : (rn - 1) * cn + cn = cn * rn := by
    rw [← Nat.succ_mul, Nat.succ_eq_add_one, show rn - 1 + 1 = rn by omega, Nat.mul_comm]
  refine ⟨m * cn + a / 2, by omega, ?_, fun k hk => ?_⟩
  · unfold FX1_cellAt FX1_columnOf
    rw [hd.1.1, e3, pk_mul, nI_add]
  · unfold mbcell
    rw [hd.1.2.2.1, e3, pk_mul, show (640 : Int32) = nI 640 from rfl, pk_mul, nI_add, nI_add, Nat.add_assoc]
theorem z_rn (hd : zDim cn rn p J) : (p.2.1).toNatClampNeg = rn ∧ (J.2.1).toNatClampNeg = rn := by
  have d := hd.2
  rw [hd.1.2.1, hd.1.2.2.2, nI_clamp (by omega)]; exact ⟨rfl, rfl⟩
theorem z_barOk (hd : zDim cn rn p J) (h : zPt cn rn x y) : barOk p x := by
  have d := hd.2
  have h640 := z_cn hd
  unfold barOk
  rw [(z_rn hd).1]
  refine ⟨hd.1.2.1, by omega, fun m hm => ?_⟩
  obtain ⟨c, hc, e1, -⟩ := z_bcell hd ⟨h.1, h.2.1⟩ hm
  exact z_vp e1 (by omega) (by decide)
theorem z_mbarOk (hd : zDim cn rn p J) (h : zPt cn rn x y) {k : Nat} (hk : k < 6) : mbarOk J (nI k) x y := by
  have d := hd.2
  have h640 := z_cn hd
  obtain ⟨h1, h2, h3, h4⟩ := h
  unfold mbarOk
  rw [(z_rn hd).2]
  have e1 : (y + 1).toInt = y.toInt + 1 := by rw [fb_addI] <;> rw [zi1] <;> omega
  have e2 : (2 * (y + 1)).toInt = 2 * (y.toInt + 1) := by rw [fb_mulI] <;> rw [zi2, e1] <;> omega
  refine ⟨hd.1.2.2.2, by omega, by rw [e2]; omega, fun m hm => ?_⟩
  obtain ⟨c, hc, -, e3⟩ := z_bcell hd ⟨h1, h2⟩ hm
  exact z_vp (e3 k hk) (by omega) (by decide)
theorem z_bar {M g : Int32} {k t : Nat} {r r' : xR2} (hd : zDim cn rn p J) (hk : k < 6) (hM3 : M = 3) (ht24 : t < 24) (hp : zPt cn rn x y) (h : zDr cn rn M g k r r') : zDr cn rn M g k (FX4_bar p r x y (nI t)) (FX6_bar J r' (nI k) (nI t) x y) ∧ zOut k r' (FX6_bar J r' (nI k) (nI t) x y) := by
  have h640 := z_cn hd
  have hM0 : ¬ M = 0 := by rw [hM3]; decide
  have key : ∀ (m : Nat) (lf : Int32) (r r' : xR2), m ≤ rn → lf.toInt ≤ 1000 → -1000 ≤ lf.toInt → zDr cn rn M g k r r' → zDr cn rn M g k (LX4_bar p (FX1_columnOf p x) (nI t) m lf r) (LX6_bar J (nI k) (nI t) x m lf r') ∧ zOut k r' (LX6_bar J (nI k) (nI t) x m lf r') := by
    intro m
    induction m with
    | zero => intro lf r r' _ _ _ h; rw [LX4_bar, LX6_bar]; exact ⟨h, zOut.rf⟩
    | succ m ih =>
      intro lf r r' hm hl1 hl2 h
      rw [LX4_bar, LX6_bar]
      by_cases hl : lf ≤ 0
      · rw [if_pos hl, if_pos hl]; exact ⟨h, zOut.rf⟩
      · rw [if_neg hl, if_neg hl]
        rw [fa_le, zi0] at hl
        have e8 : (-8 : Int32).toInt = -8 := rfl
        have e9 : (lf + (-8)).toInt = lf.toInt - 8 := by rw [fb_addI] <;> rw [e8] <;> omega
        obtain ⟨c, hc, e1, e2⟩ := z_bcell hd ⟨hp.1, hp.2.1⟩ (m := m) (by omega)
        have e2 := e2 k hk
        have ec : (nI c).toNatClampNeg = c := nI_clamp (by omega)
        have ec2 : (nI (640 * k + c)).toNatClampNeg = 640 * k + c := nI_clamp (by omega)
        obtain ⟨h1, a, b, h2, h4, h5, h6, h7, h8, h9⟩ := h c (by omega)
        obtain ⟨f, hf, ef, ef2⟩ : ∃ f : Nat, (1 ≤ f ∧ f ≤ 8) ∧ (if (8 : Int32) < lf then (8 : Int32) else lf) = nI f ∧ (if lf ≤ 8 then lf else (8 : Int32)) = nI f := by
          by_cases z : (8 : Int32) < lf
          · exact ⟨8, by omega, by rw [if_pos z]; rfl, by rw [if_neg (Int32.not_le.mpr z)]; rfl⟩
          · have e88 : (8 : Int32).toInt = 8 := rfl
            obtain ⟨f, hf, e⟩ := z_nat (x := lf) (n := 9) (by omega) (by rw [fa_lt, e88] at z; omega) (by decide)
            refine ⟨f, ?_, by rw [if_neg z, e], by rw [if_pos (Int32.not_lt.mp z), e]⟩
            rw [e, nI_toInt (by omega)] at hl
            omega
        have eR : barR p r (FX1_columnOf p x) (nI m) lf (nI t) = (upd r.1 c (nI (if b < f then f else b)), dHit r.2 (nI c) (nI t)) := by
          have hz : (if nI b < nI f then nI f else nI b) = nI (if b < f then f else b) := by
            by_cases z : b < f
            · rw [if_pos z, if_pos (nI_lt z (by omega))]
            · rw [if_neg z, if_neg (nI_nlt (by omega) (by omega))]
          unfold barR
          rw [e1, ec, ef, h4, hz]
        have eM : mbarR J r' (nI k) (nI t) x (nI m) lf = (upd r'.1 (640 * k + c) (nI (9600 + (if b < f then f else b))), upd r'.2 (640 * k + c) ((r'.2 (640 * k + c)) ||| ((1 : Int32) <<< (nI t &&& 31)))) := by
          have hz : (if nI (9600 + f) ≤ r'.1 (640 * k + c) then r'.1 (640 * k + c) else nI (9600 + f)) = nI (9600 + (if b < f then f else b)) := by
            by_cases ha : a = 0
            · rw [(h8 ha).2, (h8 ha).1, if_neg (nI_nle (by omega) (by omega)), if_pos (by omega)]
            · have z9 := (h9 ha).1
              rw [if_neg hM0, if_pos hM3] at z9
              rw [z9]
              by_cases z : b < f
              · rw [if_pos z, if_neg (nI_ge (by omega) (by omega))]
              · rw [if_neg z, if_pos (nI_le (by omega) (by omega))]
          unfold mbarR dHit mbhere
          rw [e2, ec2, ef2, show (9600 : Int32) = nI 9600 from rfl, nI_add, hz]
        rw [eR, eM]
        have bb : (if b < f then f else b) < 256 ∧ 1 ≤ (if b < f then f else b) := by split <;> omega
        have s := h.up h640 hc ht24 (b := if b < f then f else b) (u := nI (9600 + (if b < f then f else b))) bb.1 (by rw [if_neg hM0, if_pos hM3]) (fun _ => bb.2)
        have s2 := ih (lf + (-8)) _ _ (by omega) (by omega) (by omega) s
        exact ⟨s2.1, (zOut.up (by omega)).tr s2.2⟩
  unfold FX4_bar FX6_bar
  rw [(z_rn hd).1, (z_rn hd).2]
  have d := hd.2
  obtain ⟨h1, h2, h3, h4⟩ := hp
  have e1 : (y + 1).toInt = y.toInt + 1 := by rw [fb_addI] <;> rw [zi1] <;> omega
  have e2 : (2 * (y + 1)).toInt = 2 * (y.toInt + 1) := by rw [fb_mulI] <;> rw [zi2, e1] <;> omega
  exact key rn _ r r' (Nat.le_refl _) (by rw [e2]; omega) (by rw [e2]; omega) h
end ZB
