/-! PURE: numbers; scales -/
theorem fa_lt (a b : Int32) : a < b ↔ a.toInt < b.toInt := Int32.lt_iff_toInt_lt
theorem fa_le (a b : Int32) : a ≤ b ↔ a.toInt ≤ b.toInt := Int32.le_iff_toInt_le
theorem fa_eq (a b : Int32) : a = b ↔ a.toInt = b.toInt := Int32.toInt_inj.symm
theorem fa_lt64 (a b : Int64) : a < b ↔ a.toInt < b.toInt := Int64.lt_iff_toInt_lt
theorem fa_le64 (a b : Int64) : a ≤ b ↔ a.toInt ≤ b.toInt := Int64.le_iff_toInt_le
theorem fa_eq64 (a b : Int64) : a = b ↔ a.toInt = b.toInt := Int64.toInt_inj.symm
theorem fb_rng (x : Int32) : -2147483648 ≤ x.toInt ∧ x.toInt < 2147483648 := by
  have h1 := Int32.le_toInt x
  have h2 := Int32.toInt_lt x
  omega
theorem fb_bmod {z : Int} (h1 : -2147483648 ≤ z) (h2 : z < 2147483648) : z.bmod (2 ^ 32) = z := by
  rw [Int.bmod_eq_of_le (by omega) (by omega)]
theorem fb_addI {x y : Int32} (h1 : -2147483648 ≤ x.toInt + y.toInt) (h2 : x.toInt + y.toInt < 2147483648) : (x + y).toInt = x.toInt + y.toInt := by
  rw [Int32.toInt_add, fb_bmod h1 h2]
theorem fb_subI {x y : Int32} (h1 : -2147483648 ≤ x.toInt - y.toInt) (h2 : x.toInt - y.toInt < 2147483648) : (x - y).toInt = x.toInt - y.toInt := by
  rw [Int32.toInt_sub, fb_bmod h1 h2]
theorem fb_mulI {x y : Int32} (h1 : -2147483648 ≤ x.toInt * y.toInt) (h2 : x.toInt * y.toInt < 2147483648) : (x * y).toInt = x.toInt * y.toInt := by
  rw [Int32.toInt_mul, fb_bmod h1 h2]
theorem fb_negI {x : Int32} (h : x.toInt ≠ -2147483648) : (-x).toInt = -x.toInt := by
  have := fb_rng x
  rw [Int32.toInt_neg, fb_bmod (by omega) (by omega)]
theorem fb_rngL (x : Int64) : -9223372036854775808 ≤ x.toInt ∧ x.toInt < 9223372036854775808 := by
  have h1 := Int64.le_toInt x
  have h2 := Int64.toInt_lt x
  omega
theorem fb_bmodL {z : Int} (h1 : -9223372036854775808 ≤ z) (h2 : z < 9223372036854775808) : z.bmod (2 ^ 64) = z := by
  rw [Int.bmod_eq_of_le (by omega) (by omega)]
theorem fb_addL {x y : Int64} (h1 : -9223372036854775808 ≤ x.toInt + y.toInt) (h2 : x.toInt + y.toInt < 9223372036854775808) : (x + y).toInt = x.toInt + y.toInt := by
  rw [Int64.toInt_add, fb_bmodL h1 h2]
theorem fb_subL {x y : Int64} (h1 : -9223372036854775808 ≤ x.toInt - y.toInt) (h2 : x.toInt - y.toInt < 9223372036854775808) : (x - y).toInt = x.toInt - y.toInt := by
  rw [Int64.toInt_sub, fb_bmodL h1 h2]
theorem fb_mulL {x y : Int64} (h1 : -9223372036854775808 ≤ x.toInt * y.toInt) (h2 : x.toInt * y.toInt < 9223372036854775808) : (x * y).toInt = x.toInt * y.toInt := by
  rw [Int64.toInt_mul, fb_bmodL h1 h2]
theorem zi0 : (0 : Int32).toInt = 0 := rfl
theorem zi1 : (1 : Int32).toInt = 1 := rfl
theorem zi2 : (2 : Int32).toInt = 2 := rfl
theorem zi4 : (4 : Int32).toInt = 4 := rfl
theorem zi9 : (-9 : Int32).toInt = -9 := rfl
theorem zinj {a b : Int32} (h : a.toInt = b.toInt) : a = b := Int32.toInt_inj.mp h
/-- a quotient by what is positive -/
theorem zdivn {a b : Int32} (ha : 0 ≤ a.toInt) (hb : 0 < b.toInt) : (a / b).toInt = a.toInt / b.toInt := by
  rw [Int32.toInt_div_of_ne_right a b (fun e => by rw [e] at hb; exact absurd hb (by decide)), Int.tdiv_eq_ediv_of_nonneg ha]
theorem zdivL {a b : Int64} (ha : 0 ≤ a.toInt) (hb : 0 < b.toInt) : (a / b).toInt = a.toInt / b.toInt := by
  rw [Int64.toInt_div_of_ne_right a b (fun e => by rw [e] at hb; exact absurd hb (by decide)), Int.tdiv_eq_ediv_of_nonneg ha]
/-- a quotient of what is negative: less its own quotient -/
theorem zdivm {a b : Int32} (ha : a.toInt < 0) (hb : 0 < b.toInt) : (a / b).toInt = -((-a.toInt) / b.toInt) := by
  rw [Int32.toInt_div_of_ne_right a b (fun e => by rw [e] at hb; exact absurd hb (by decide))]
  rw [show a.toInt = -(-a.toInt) by omega, Int.neg_tdiv, Int.tdiv_eq_ediv_of_nonneg (by omega), Int.neg_neg]
theorem zediv {a b q r : Int} (hb : 0 < b) (e : a = b * q + r) (h0 : 0 ≤ r) (h1 : r < b) : a / b = q := by
  rw [e, Int.mul_add_ediv_left _ _ (by omega), Int.ediv_eq_zero_of_lt h0 h1, Int.add_zero]
theorem zmul_le {a b c d : Int} (h1 : a ≤ b) (h2 : c ≤ d) (h3 : 0 ≤ c) (h4 : 0 ≤ b) : a * c ≤ b * d := Int.mul_le_mul h1 h2 h3 h4
theorem zxor {a b : Int32} (hb : 0 < b.toInt) : 0 ≤ a ^^^ b ↔ 0 ≤ a.toInt := by
  rw [fa_le, zi0]
  have e1 : (a ^^^ b).toBitVec.msb = (a.toBitVec.msb ^^ b.toBitVec.msb) := by rw [Int32.toBitVec_xor, BitVec.msb_xor]
  have e2 : (a ^^^ b).toBitVec.msb = decide ((a ^^^ b).toInt < 0) := BitVec.msb_eq_toInt
  have e3 : a.toBitVec.msb = decide (a.toInt < 0) := BitVec.msb_eq_toInt
  have e4 : b.toBitVec.msb = decide (b.toInt < 0) := BitVec.msb_eq_toInt
  rw [e2, e3, e4, decide_eq_false (show ¬ b.toInt < 0 by omega), Bool.xor_false] at e1
  have e5 := decide_eq_decide.mp e1
  omega
theorem zfd {a b : Int32} (hb : 0 < b.toInt) : (FJ9_floorDiv_7cf53 a b).toInt = a.toInt / b.toInt := by
  unfold FJ9_floorDiv_7cf53
  by_cases h : 0 ≤ a ^^^ b
  · rw [if_pos h]; exact zdivn ((zxor hb).mp h) hb
  · rw [if_neg h]
    have ha : a.toInt < 0 := Int.not_le.mp (fun z => h ((zxor hb).mpr z))
    have hr := fb_rng a
    have hq := zdivm ha hb
    have e := Int.mul_ediv_add_emod (-a.toInt) b.toInt
    have r0 := Int.emod_nonneg (-a.toInt) (show b.toInt ≠ 0 by omega)
    have r1 := Int.emod_lt_of_pos (-a.toInt) hb
    have q0 : 0 ≤ (-a.toInt) / b.toInt := Int.ediv_nonneg (by omega) (by omega)
    generalize hQ : (-a.toInt) / b.toInt = Q at *
    generalize hR : (-a.toInt) % b.toInt = R at *
    have m0 : 0 ≤ b.toInt * Q := Int.mul_nonneg (by omega) q0
    have hm : ((a / b) * b).toInt = -(b.toInt * Q) := by
      rw [fb_mulI] <;> rw [hq, Int.neg_mul, Int.mul_comm Q] <;> omega
    by_cases h2 : (a / b) * b = a
    · rw [if_pos h2, hq]
      rw [fa_eq, hm] at h2
      exact (zediv hb (r := 0) (by rw [Int.mul_neg]; omega) (by omega) (by omega)).symm
    · rw [if_neg h2]
      rw [fa_eq, hm] at h2
      have q1 : Q ≤ b.toInt * Q := by
        have := Int.mul_le_mul_of_nonneg_right (show (1 : Int) ≤ b.toInt by omega) q0
        omega
      rw [fb_subI (by rw [hq, zi1]; omega) (by rw [hq, zi1]; omega), hq, zi1]
      exact (zediv hb (r := b.toInt - R) (by rw [Int.mul_sub, Int.mul_neg]; omega) (by omega) (by omega)).symm
theorem zfl {v t : Int32} (ht : 0 < t.toInt) (hb : t.toInt - v.toInt < 2147483648) : (FX6_floor v t).toInt = v.toInt / t.toInt := by
  unfold FX6_floor
  by_cases h : v < 0
  · rw [if_pos h]
    rw [fa_lt, zi0] at h
    have hr := fb_rng v
    have e1 : (t - 1).toInt = t.toInt - 1 := by rw [fb_subI] <;> rw [zi1] <;> omega
    have e2 : ((t - 1) - v).toInt = t.toInt - 1 - v.toInt := by rw [fb_subI] <;> rw [e1] <;> omega
    have e3 : (((t - 1) - v) / t).toInt = (t.toInt - 1 - v.toInt) / t.toInt := by rw [zdivn (by rw [e2]; omega) ht, e2]
    have q0 : 0 ≤ (t.toInt - 1 - v.toInt) / t.toInt := Int.ediv_nonneg (by omega) (by omega)
    rw [fb_negI (by rw [e3]; omega), e3]
    have e := Int.mul_ediv_add_emod v.toInt t.toInt
    have r0 := Int.emod_nonneg v.toInt (show t.toInt ≠ 0 by omega)
    have r1 := Int.emod_lt_of_pos v.toInt ht
    have e4 : (t.toInt - 1 - v.toInt) / t.toInt = -(v.toInt / t.toInt) := zediv ht (r := t.toInt - 1 - v.toInt % t.toInt) (by rw [Int.mul_neg]; omega) (by omega) (by omega)
    rw [e4, Int.neg_neg]
  · rw [if_neg h]
    rw [fa_lt, zi0] at h
    exact zdivn (by omega) ht
theorem zffl {v t : Int32} (ht : 0 < t.toInt) (hb : t.toInt - v.toInt < 2147483648) : FJ9_floorDiv_7cf53 v t = FX6_floor v t := zinj (by rw [zfd ht, zfl ht hb])
-- ---- scales
/-- a scale as it may stand -/
def zOk (S : xS) : Prop := (S.1 = 0 ∨ S.1 = 1 ∨ S.1 = 2) ∧ (-1000000 ≤ S.2.1.toInt ∧ S.2.1.toInt < S.2.2.1.toInt ∧ S.2.2.1.toInt ≤ 1000000) ∧ (S.1 = 2 → S.2.1.toInt < S.2.2.2.1.toInt ∧ S.2.2.2.1.toInt < S.2.2.2.2.1.toInt ∧ S.2.2.2.2.1.toInt < S.2.2.1.toInt) ∧ 8 ≤ S.2.2.2.2.2.toInt ∧ S.2.2.2.2.2.toInt ≤ 80
/-- the reference has the same scale -/
def zAx (S : xS) (I : xMi) (V : Nat → Nat → Int32) (ax : Int32) : Prop := V 2 ax.toNatClampNeg = S.1 ∧ V 3 ax.toNatClampNeg = S.2.1 ∧ V 4 ax.toNatClampNeg = S.2.2.1 ∧ V 5 ax.toNatClampNeg = S.2.2.2.1 ∧ V 6 ax.toNatClampNeg = S.2.2.2.2.1 ∧ FX6_dots I V ax = S.2.2.2.2.2
def zL (S : xS) : Int := if S.1 = 2 then S.2.2.2.2.1.toInt - S.2.2.2.1.toInt else 0
def zS (S : xS) : Int := S.2.2.1.toInt - S.2.1.toInt - zL S
def zD (s n a : Int) : Int := (2 * a * (n - 1) + s) / (2 * s)
section ZS
variable {S : xS} {I : xMi} {V : Nat → Nat → Int32} {ax v : Int32}
theorem z_l0 (hS : zOk S) : 0 ≤ zL S ∧ zL S ≤ 2000000 ∧ 1 ≤ zS S ∧ zS S ≤ 2000000 := by
  obtain ⟨h1, ⟨h2, h3, h4⟩, h5, h6⟩ := hS
  unfold zS zL
  by_cases h : S.1 = 2
  · rw [if_pos h]; have := h5 h; omega
  · rw [if_neg h]; omega
theorem z_left (hS : zOk S) : (FX2_leftOut S).toInt = zL S := by
  have hs := z_l0 hS
  obtain ⟨h1, ⟨h2, h3, h4⟩, h5, h6⟩ := hS
  unfold zS zL at hs
  unfold zL FX2_leftOut
  by_cases h : S.1 = 2
  · rw [if_pos h] at hs ⊢; rw [if_pos h, fb_subI (by omega) (by omega)]
  · rw [if_neg h, if_neg h]; rfl
theorem z_span (hS : zOk S) : ((S.2.2.1 - S.2.1) - (FX2_leftOut S)).toInt = zS S := by
  have hs := z_l0 hS
  have hl := z_left hS
  obtain ⟨h1, ⟨h2, h3, h4⟩, h5, h6⟩ := hS
  have e1 : (S.2.2.1 - S.2.1).toInt = S.2.2.1.toInt - S.2.1.toInt := fb_subI (by omega) (by omega)
  rw [fb_subI (by rw [e1, hl]; omega) (by rw [e1, hl]; omega), e1, hl]; rfl
theorem zD_b {s n a : Int} (h1 : 0 ≤ a) (h2 : a ≤ s) (h3 : 1 ≤ s) (h5 : 1 ≤ n) : 0 ≤ zD s n a ∧ zD s n a ≤ n - 1 := by
  have p0 : 0 ≤ (2 * a) * (n - 1) := Int.mul_nonneg (by omega) (by omega)
  have p1 : (2 * a) * (n - 1) ≤ (2 * s) * (n - 1) := Int.mul_le_mul_of_nonneg_right (by omega) (by omega)
  unfold zD
  refine ⟨Int.ediv_nonneg (by omega) (by omega), ?_⟩
  have : (2 * a * (n - 1) + s) / (2 * s) < n := Int.ediv_lt_of_lt_mul (by omega) (by
    have e : n * (2 * s) = (2 * s) * (n - 1) + 2 * s := by rw [Int.mul_sub, Int.mul_one, Int.mul_comm n]; omega
    omega)
  omega
theorem z_dotC {a dn sp : Int32} (h1 : 0 ≤ a.toInt) (h2 : a.toInt ≤ sp.toInt) (h3 : 1 ≤ sp.toInt) (h4 : sp.toInt ≤ 2000000) (h5 : 1 ≤ dn.toInt) (h6 : dn.toInt ≤ 80) : ((((2 * a) * (dn - 1)) + sp) / (2 * sp)).toInt = zD sp.toInt dn.toInt a.toInt := by
  have m1 : (2 * a).toInt = 2 * a.toInt := by rw [fb_mulI] <;> rw [zi2] <;> omega
  have m2 : (dn - 1).toInt = dn.toInt - 1 := by rw [fb_subI] <;> rw [zi1] <;> omega
  have p0 : 0 ≤ (2 * a.toInt) * (dn.toInt - 1) := Int.mul_nonneg (by omega) (by omega)
  have p1 : (2 * a.toInt) * (dn.toInt - 1) ≤ 4000000 * 79 := zmul_le (by omega) (by omega) (by omega) (by omega)
  have m3 : ((2 * a) * (dn - 1)).toInt = (2 * a.toInt) * (dn.toInt - 1) := by rw [fb_mulI] <;> rw [m1, m2] <;> omega
  have m4 : (((2 * a) * (dn - 1)) + sp).toInt = (2 * a.toInt) * (dn.toInt - 1) + sp.toInt := by rw [fb_addI] <;> rw [m3] <;> omega
  have m5 : (2 * sp).toInt = 2 * sp.toInt := by rw [fb_mulI] <;> rw [zi2] <;> omega
  rw [zdivn (by rw [m4]; omega) (by rw [m5]; omega), m4, m5]; rfl
theorem z_spanL (hS : zOk S) (hA : zAx S I V ax) : (FX6_span I V ax).toInt = zS S ∧ (FX6_left I V ax) = FX2_leftOut S := by
  have hs := z_l0 hS
  have hl := z_left hS
  have e0 : FX6_left I V ax = FX2_leftOut S := by
    unfold FX6_left FX2_leftOut
    rw [hA.1, hA.2.2.2.1, hA.2.2.2.2.1]
  refine ⟨?_, e0⟩
  obtain ⟨h1, ⟨h2, h3, h4⟩, h5, h6⟩ := hS
  unfold FX6_span
  rw [e0, hA.2.1, hA.2.2.1]
  have e1 : (S.2.2.1.toInt64 - S.2.1.toInt64).toInt = S.2.2.1.toInt - S.2.1.toInt := by rw [fb_subL] <;> rw [Int32.toInt_toInt64, Int32.toInt_toInt64] <;> omega
  rw [fb_subL] <;> rw [e1, Int32.toInt_toInt64, hl] <;> first | rfl | omega
theorem z_dotL (hS : zOk S) (hA : zAx S I V ax) {a : Int64} (h1 : 0 ≤ a.toInt) (h2 : a.toInt ≤ zS S) : (FX6_dotOf I V ax a).toInt = zD (zS S) S.2.2.2.2.2.toInt a.toInt := by
  have hs := z_l0 hS
  have hsp := (z_spanL hS hA).1
  obtain ⟨-, -, -, h5, h6⟩ := hS
  have e2 : (2 : Int64).toInt = 2 := rfl
  have m1 : (2 * a).toInt = 2 * a.toInt := by rw [fb_mulL] <;> rw [e2] <;> omega
  have m2 : (Int32.toInt64 (S.2.2.2.2.2 - 1)).toInt = S.2.2.2.2.2.toInt - 1 := by rw [Int32.toInt_toInt64, fb_subI] <;> rw [zi1] <;> omega
  have p0 : 0 ≤ (2 * a.toInt) * (S.2.2.2.2.2.toInt - 1) := Int.mul_nonneg (by omega) (by omega)
  have p1 : (2 * a.toInt) * (S.2.2.2.2.2.toInt - 1) ≤ 4000000 * 79 := zmul_le (by omega) (by omega) (by omega) (by omega)
  have b := zD_b (n := S.2.2.2.2.2.toInt) h1 h2 hs.2.2.1 (by omega)
  unfold FX6_dotOf
  rw [hA.2.2.2.2.2]
  have m3 : ((2 * a) * (Int32.toInt64 (S.2.2.2.2.2 - 1))).toInt = (2 * a.toInt) * (S.2.2.2.2.2.toInt - 1) := by rw [fb_mulL] <;> rw [m1, m2] <;> omega
  have m4 : (((2 * a) * (Int32.toInt64 (S.2.2.2.2.2 - 1))) + FX6_span I V ax).toInt = (2 * a.toInt) * (S.2.2.2.2.2.toInt - 1) + zS S := by rw [fb_addL] <;> rw [m3, hsp] <;> omega
  have m5 : (2 * FX6_span I V ax).toInt = 2 * zS S := by rw [fb_mulL] <;> rw [e2, hsp] <;> omega
  have m6 : ((((2 * a) * (Int32.toInt64 (S.2.2.2.2.2 - 1))) + FX6_span I V ax) / (2 * FX6_span I V ax)).toInt = zD (zS S) S.2.2.2.2.2.toInt a.toInt := by
    rw [zdivL (by rw [m4]; omega) (by rw [m5]; omega), m4, m5]; rfl
  rw [Int64.toInt_toInt32, m6, fb_bmod (by omega) (by omega)]
theorem z_has (hA : zAx S I V ax) : FX6_has I V ax v = FX2_holds S v := by
  unfold FX6_has FX2_holds
  rw [hA.1, hA.2.1, hA.2.2.1, hA.2.2.2.1, hA.2.2.2.2.1]
  by_cases h1 : v < S.2.1
  · rw [if_pos h1, if_pos h1]
  · rw [if_neg h1, if_neg h1]
    by_cases h2 : S.2.2.1 < v
    · rw [if_pos h2, if_pos h2]
    · rw [if_neg h2, if_neg h2]
      by_cases h3 : S.1 = 2
      · rw [if_pos h3, if_pos h3]
        by_cases h4 : v ≤ S.2.2.2.1
        · rw [if_pos h4, if_pos h4, if_pos rfl]
        · rw [if_neg h4, if_neg h4]
          by_cases h5 : v < S.2.2.2.2.1
          · rw [if_pos h5, if_neg (Int32.not_le.mpr h5), if_neg (by decide)]
          · rw [if_neg h5, if_pos (Int32.not_lt.mp h5), if_pos rfl]
      · rw [if_neg h3, if_neg h3, if_pos rfl]
/-- how far a value lies along -/
def zA (S : xS) (v : Int32) : Int := if S.1 = 2 ∧ S.2.2.2.2.1.toInt ≤ v.toInt then v.toInt - S.2.1.toInt - zL S else v.toInt - S.2.1.toInt
theorem z_holds (h : ¬ FX2_holds S v = 0) : S.2.1.toInt ≤ v.toInt ∧ v.toInt ≤ S.2.2.1.toInt ∧ (S.1 = 2 → v.toInt ≤ S.2.2.2.1.toInt ∨ S.2.2.2.2.1.toInt ≤ v.toInt) := by
  unfold FX2_holds at h
  by_cases h1 : v < S.2.1
  · rw [if_pos h1] at h; exact absurd rfl h
  · rw [if_neg h1] at h
    by_cases h2 : S.2.2.1 < v
    · rw [if_pos h2] at h; exact absurd rfl h
    · rw [if_neg h2] at h
      rw [fa_lt] at h1 h2
      refine ⟨by omega, by omega, fun h3 => ?_⟩
      rw [if_pos h3] at h
      by_cases h4 : v ≤ S.2.2.2.1
      · rw [fa_le] at h4; exact Or.inl h4
      · rw [if_neg h4] at h
        by_cases h5 : v < S.2.2.2.2.1
        · rw [if_pos h5] at h; exact absurd rfl h
        · rw [fa_lt] at h5; right; omega
theorem z_hold (h1 : S.2.1.toInt ≤ v.toInt) (h2 : v.toInt ≤ S.2.2.1.toInt) (h3 : S.1 = 2 → v.toInt ≤ S.2.2.2.1.toInt ∨ S.2.2.2.2.1.toInt ≤ v.toInt) : FX2_holds S v = 1 := by
  unfold FX2_holds
  rw [if_neg (by rw [fa_lt]; omega), if_neg (by rw [fa_lt]; omega)]
  by_cases h : S.1 = 2
  · rw [if_pos h]
    by_cases h4 : v ≤ S.2.2.2.1
    · rw [if_pos h4]
    · rw [if_neg h4, if_neg (by rw [fa_le] at h4; rw [fa_lt]; have := h3 h; omega)]
  · rw [if_neg h]
theorem z_aB (hS : zOk S) (h : ¬ FX2_holds S v = 0) : 0 ≤ zA S v ∧ zA S v ≤ zS S := by
  have hh := z_holds h
  have hs := z_l0 hS
  obtain ⟨h1, ⟨h2, h3, h4⟩, h5, h6⟩ := hS
  unfold zA zS
  by_cases hk : S.1 = 2
  · have e : zL S = S.2.2.2.2.1.toInt - S.2.2.2.1.toInt := if_pos hk
    have a := h5 hk
    have b := hh.2.2 hk
    by_cases ht : S.2.2.2.2.1.toInt ≤ v.toInt
    · rw [if_pos ⟨hk, ht⟩]; omega
    · rw [if_neg (fun z => ht z.2)]; omega
  · have e : zL S = 0 := if_neg hk
    rw [if_neg (fun z => hk z.1)]; omega
theorem z_aC (hS : zOk S) (h : ¬ FX2_holds S v = 0) : ((if S.1 = (2 : Int32) then (if v < S.2.2.2.2.1 then (v - S.2.1) else ((v - S.2.1) - (FX2_leftOut S))) else (v - S.2.1)) : Int32).toInt = zA S v := by
  have hh := z_holds h
  have hs := z_l0 hS
  have hl := z_left hS
  obtain ⟨h1, ⟨h2, h3, h4⟩, h5, h6⟩ := hS
  have e1 : (v - S.2.1).toInt = v.toInt - S.2.1.toInt := fb_subI (by omega) (by omega)
  unfold zA
  by_cases hk : S.1 = 2
  · rw [if_pos hk]
    by_cases ht : v < S.2.2.2.2.1
    · rw [if_pos ht, if_neg (fun z => by rw [fa_lt] at ht; omega), e1]
    · rw [if_neg ht, if_pos ⟨hk, by rw [fa_lt] at ht; omega⟩, fb_subI (by rw [e1, hl]; omega) (by rw [e1, hl]; omega), e1, hl]
  · rw [if_neg hk, if_neg (fun z => hk z.1), e1]
theorem z_aR (hS : zOk S) (hA : zAx S I V ax) (h : ¬ FX2_holds S v = 0) : (((Int32.toInt64 v) - (Int32.toInt64 ((V 3) (Int32.toNatClampNeg ax)))) - (Int32.toInt64 (if ((V 2) (Int32.toNatClampNeg ax)) = (2 : Int32) then (if v < ((V 6) (Int32.toNatClampNeg ax)) then (0 : Int32) else (FX6_left I V ax)) else (0 : Int32)))).toInt = zA S v := by
  have hh := z_holds h
  have hs := z_l0 hS
  have hl := z_left hS
  rw [(z_spanL hS hA).2, hA.1, hA.2.1, hA.2.2.2.2.1]
  obtain ⟨h1, ⟨h2, h3, h4⟩, h5, h6⟩ := hS
  have e1 : (v.toInt64 - S.2.1.toInt64).toInt = v.toInt - S.2.1.toInt := by rw [fb_subL] <;> rw [Int32.toInt_toInt64, Int32.toInt_toInt64] <;> omega
  have key : ∀ w : Int32, 0 ≤ w.toInt → w.toInt ≤ 2000000 → ((v.toInt64 - S.2.1.toInt64) - w.toInt64).toInt = v.toInt - S.2.1.toInt - w.toInt := fun w w0 w1 => by
    rw [fb_subL] <;> rw [e1, Int32.toInt_toInt64] <;> omega
  unfold zA
  by_cases hk : S.1 = 2
  · rw [if_pos hk]
    by_cases ht : v < S.2.2.2.2.1
    · rw [if_pos ht, if_neg (fun z => by rw [fa_lt] at ht; omega), key 0 (by decide) (by decide), zi0]; omega
    · rw [if_neg ht, if_pos ⟨hk, by rw [fa_lt] at ht; omega⟩, key _ (by omega) (by omega), hl]
  · rw [if_neg hk, if_neg (fun z => hk z.1), key 0 (by decide) (by decide), zi0]; omega
/-- the place of a value, class -/
theorem z_plC (hS : zOk S) : FX2_placeOf S v = if FX2_holds S v = 0 then -9 else Int32.ofInt (if S.1 = 1 then S.2.2.2.2.2.toInt - 1 - zD (zS S) S.2.2.2.2.2.toInt (zA S v) else zD (zS S) S.2.2.2.2.2.toInt (zA S v)) := by
  have hs := z_l0 hS
  have hsp := z_span hS
  unfold FX2_placeOf
  rw [if_neg (by rw [fa_le, hsp, zi0]; omega)]
  by_cases h : FX2_holds S v = 0
  · rw [if_pos h, if_pos h]
  · rw [if_neg h, if_neg h]
    have ha := z_aC hS h
    have hb := z_aB hS h
    obtain ⟨-, -, -, h5, h6⟩ := hS
    have hd := z_dotC (sp := (S.2.2.1 - S.2.1) - FX2_leftOut S) (dn := S.2.2.2.2.2) (by rw [ha]; exact hb.1) (by rw [ha, hsp]; exact hb.2) (by rw [hsp]; omega) (by rw [hsp]; omega) (by omega) h6
    rw [ha, hsp] at hd
    have b := zD_b (n := S.2.2.2.2.2.toInt) hb.1 hb.2 hs.2.2.1 (by omega)
    have m2 : (S.2.2.2.2.2 - 1).toInt = S.2.2.2.2.2.toInt - 1 := by rw [fb_subI] <;> rw [zi1] <;> omega
    by_cases hk : S.1 = 1
    · rw [if_pos hk, if_pos hk]
      refine zinj ?_
      rw [fb_subI (by rw [m2, hd]; omega) (by rw [m2, hd]; omega), m2, hd, Int32.toInt_ofInt, fb_bmod (by omega) (by omega)]
    · rw [if_neg hk, if_neg hk]
      refine zinj ?_
      rw [hd, Int32.toInt_ofInt, fb_bmod (by omega) (by omega)]
theorem z_plR (hS : zOk S) (hA : zAx S I V ax) : FX6_placeOf I V ax v = FX2_placeOf S v := by
  have hs := z_l0 hS
  rw [z_plC hS]
  unfold FX6_placeOf
  rw [z_has hA]
  by_cases h : FX2_holds S v = 0
  · rw [if_pos h, if_pos h]
  · rw [if_neg h, if_neg h, hA.1]
    have ha := z_aR hS hA h
    have hb := z_aB hS h
    have hd := z_dotL hS hA (a := _) (by rw [ha]; exact hb.1) (by rw [ha]; exact hb.2)
    rw [ha] at hd
    rw [hA.2.2.2.2.2]
    rw [hA.1] at hd
    obtain ⟨-, -, -, h5, h6⟩ := hS
    have b := zD_b (n := S.2.2.2.2.2.toInt) hb.1 hb.2 hs.2.2.1 (by omega)
    have m2 : (S.2.2.2.2.2 - 1).toInt = S.2.2.2.2.2.toInt - 1 := by rw [fb_subI] <;> rw [zi1] <;> omega
    by_cases hk : S.1 = 1
    · rw [if_pos hk, if_pos hk]
      refine zinj ?_
      rw [fb_subI (by rw [m2, hd]; omega) (by rw [m2, hd]; omega), m2, hd, Int32.toInt_ofInt, fb_bmod (by omega) (by omega)]
    · rw [if_neg hk, if_neg hk]
      refine zinj ?_
      rw [hd, Int32.toInt_ofInt, fb_bmod (by omega) (by omega)]
theorem z_plB (hS : zOk S) : FX2_placeOf S v = -9 ∨ (0 ≤ (FX2_placeOf S v).toInt ∧ (FX2_placeOf S v).toInt < S.2.2.2.2.2.toInt) := by
  have hs := z_l0 hS
  rw [z_plC hS]
  by_cases h : FX2_holds S v = 0
  · rw [if_pos h]; exact Or.inl rfl
  · rw [if_neg h]; right
    have hb := z_aB hS h
    obtain ⟨-, -, -, h5, h6⟩ := hS
    have b := zD_b (n := S.2.2.2.2.2.toInt) hb.1 hb.2 hs.2.2.1 (by omega)
    rw [Int32.toInt_ofInt]
    split <;> rw [fb_bmod (by omega) (by omega)] <;> omega
end ZS
