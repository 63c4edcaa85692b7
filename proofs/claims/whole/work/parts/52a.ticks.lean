/-! PURE: step, tick -/
section ZK
variable {S : xS} {I : xMi} {V : Nat → Nat → Int32} {ax : Int32}
theorem z_mul (hS : zOk S) {a b t : Int32} (ht : 0 < t.toInt) (ht2 : t.toInt ≤ 2000000) (ha : -1000001 ≤ a.toInt) (ha2 : a.toInt ≤ 1000001) (hb : -1000001 ≤ b.toInt) (hb2 : b.toInt ≤ 1000001) : (FX2_multiples a b t).toInt = b.toInt / t.toInt - (a.toInt - 1) / t.toInt ∧ (FX6_multiples a b t).toInt = (if a.toInt ≤ b.toInt then b.toInt / t.toInt - (a.toInt - 1) / t.toInt else 0) := by
  have e1 : (a - 1).toInt = a.toInt - 1 := by rw [fb_subI] <;> rw [zi1] <;> omega
  have q1 : ∀ z : Int, -1000002 ≤ z → z ≤ 1000001 → -1000002 ≤ z / t.toInt ∧ z / t.toInt ≤ 1000001 := fun z z1 z2 => by
    refine ⟨Int.le_ediv_of_mul_le ht ?_, ?_⟩
    · have : -1000002 * t.toInt ≤ -1000002 * 1 := Int.mul_le_mul_of_nonpos_left (by omega) (by omega)
      omega
    · have : z / t.toInt < 1000002 := Int.ediv_lt_of_lt_mul ht (by
        have : 1000002 * 1 ≤ 1000002 * t.toInt := Int.mul_le_mul_of_nonneg_left (by omega) (by omega)
        omega)
      omega
  have qb := q1 b.toInt (by omega) (by omega)
  have qa := q1 (a.toInt - 1) (by omega) (by omega)
  constructor
  · unfold FX2_multiples
    rw [if_pos (by rw [fa_lt, zi0]; exact ht), fb_subI] <;> rw [zfd ht, zfd ht, e1] <;> omega
  · unfold FX6_multiples
    by_cases h : a ≤ b
    · rw [if_pos h, if_pos (by rw [fa_le] at h; exact h), fb_subI] <;> rw [zfl ht (by omega), zfl ht (by rw [e1]; omega), e1] <;> omega
    · rw [if_neg h, if_neg (by rw [fa_le] at h; exact h)]; rfl
/-- how many values along the scale are multiples -/
def zN (S : xS) (t : Int) : Int := if S.1 = 2 then (S.2.2.2.1.toInt / t - (S.2.1.toInt - 1) / t) + (S.2.2.1.toInt / t - (S.2.2.2.2.1.toInt - 1) / t) else S.2.2.1.toInt / t - (S.2.1.toInt - 1) / t
theorem z_dq {a t : Int} (ht : 0 < t) (h1 : -1000001 ≤ a) (h2 : a ≤ 1000001) : -1000001 ≤ a / t ∧ a / t ≤ 1000001 := by
  refine ⟨Int.le_ediv_of_mul_le ht ?_, ?_⟩
  · have : -1000001 * t ≤ -1000001 * 1 := Int.mul_le_mul_of_nonpos_left (by omega) (by omega)
    omega
  · have : a / t < 1000002 := Int.ediv_lt_of_lt_mul ht (by
      have : 1000002 * 1 ≤ 1000002 * t := Int.mul_le_mul_of_nonneg_left (by omega) (by omega)
      omega)
    omega
theorem z_belowC (hS : zOk S) {t : Int32} (ht : 0 < t.toInt) (ht2 : t.toInt ≤ 2000000) : (FX2_ticksBelowGap S t).toInt = (if S.1 = 2 then S.2.2.2.1.toInt else S.2.2.1.toInt) / t.toInt - (S.2.1.toInt - 1) / t.toInt := by
  have ok := hS
  obtain ⟨k1, ⟨k2, k3, k4⟩, k5, k6⟩ := hS
  unfold FX2_ticksBelowGap
  by_cases hk : S.1 = 2
  · have := k5 hk
    rw [if_pos hk, if_pos hk]
    exact (z_mul ok ht ht2 (by omega) (by omega) (by omega) (by omega)).1
  · rw [if_neg hk, if_neg hk]
    exact (z_mul ok ht ht2 (by omega) (by omega) (by omega) (by omega)).1
theorem z_aboveC (hS : zOk S) {t : Int32} (ht : 0 < t.toInt) (ht2 : t.toInt ≤ 2000000) : (FX2_ticksAboveGap S t).toInt = if S.1 = 2 then S.2.2.1.toInt / t.toInt - (S.2.2.2.2.1.toInt - 1) / t.toInt else 0 := by
  have ok := hS
  obtain ⟨k1, ⟨k2, k3, k4⟩, k5, k6⟩ := hS
  unfold FX2_ticksAboveGap
  by_cases hk : S.1 = 2
  · have := k5 hk
    rw [if_pos hk, if_pos hk]
    exact (z_mul ok ht ht2 (by omega) (by omega) (by omega) (by omega)).1
  · rw [if_neg hk, if_neg hk]; rfl
theorem z_ticksC (hS : zOk S) {t : Int32} (ht : 0 < t.toInt) (ht2 : t.toInt ≤ 2000000) : (FX2_ticksBelowGap S t + FX2_ticksAboveGap S t).toInt = zN S t.toInt := by
  have h1 := z_belowC hS ht ht2
  have h2 := z_aboveC hS ht ht2
  obtain ⟨k1, ⟨k2, k3, k4⟩, k5, k6⟩ := hS
  have q1 := z_dq ht (a := S.2.1.toInt - 1) (by omega) (by omega)
  have q2 := z_dq ht (a := S.2.2.1.toInt) (by omega) (by omega)
  unfold zN
  by_cases hk : S.1 = 2
  · have := k5 hk
    have q3 := z_dq ht (a := S.2.2.2.1.toInt) (by omega) (by omega)
    have q4 := z_dq ht (a := S.2.2.2.2.1.toInt - 1) (by omega) (by omega)
    rw [if_pos hk] at h1 h2 ⊢
    rw [fb_addI] <;> rw [h1, h2] <;> omega
  · rw [if_neg hk] at h1 h2 ⊢
    rw [fb_addI] <;> rw [h1, h2] <;> omega
theorem z_ticksR (hS : zOk S) (hA : zAx S I V ax) {t : Int32} (ht : 0 < t.toInt) (ht2 : t.toInt ≤ 2000000) : (FX6_ticks I V ax t).toInt = zN S t.toInt := by
  have ok := hS
  obtain ⟨k1, ⟨k2, k3, k4⟩, k5, k6⟩ := hS
  have q1 := z_dq ht (a := S.2.1.toInt - 1) (by omega) (by omega)
  have q2 := z_dq ht (a := S.2.2.1.toInt) (by omega) (by omega)
  have m := (z_mul ok ht ht2 (a := S.2.1) (b := S.2.2.1) (by omega) (by omega) (by omega) (by omega)).2
  rw [if_pos (by omega)] at m
  unfold FX6_ticks zN
  rw [hA.1, hA.2.1, hA.2.2.1, hA.2.2.2.1, hA.2.2.2.2.1]
  by_cases hk : S.1 = 2
  · have := k5 hk
    have q3 := z_dq ht (a := S.2.2.2.1.toInt) (by omega) (by omega)
    have q4 := z_dq ht (a := S.2.2.2.2.1.toInt - 1) (by omega) (by omega)
    have e1 : (S.2.2.2.1 + 1).toInt = S.2.2.2.1.toInt + 1 := by rw [fb_addI] <;> rw [zi1] <;> omega
    have e2 : (S.2.2.2.2.1 - 1).toInt = S.2.2.2.2.1.toInt - 1 := by rw [fb_subI] <;> rw [zi1] <;> omega
    have m2 := (z_mul ok ht ht2 (a := S.2.2.2.1 + 1) (b := S.2.2.2.2.1 - 1) (by omega) (by omega) (by omega) (by omega)).2
    rw [e1, e2, show S.2.2.2.1.toInt + 1 - 1 = S.2.2.2.1.toInt by omega] at m2
    have m3 : (FX6_multiples (S.2.2.2.1 + 1) (S.2.2.2.2.1 - 1) t).toInt = (S.2.2.2.2.1.toInt - 1) / t.toInt - S.2.2.2.1.toInt / t.toInt := by
      rw [m2]
      split
      · rfl
      · have : S.2.2.2.2.1.toInt - 1 = S.2.2.2.1.toInt := by omega
        rw [this]; omega
    rw [if_pos hk, if_pos hk, fb_subI] <;> rw [m, m3] <;> omega
  · rw [if_neg hk, if_neg hk, m]
theorem xTick_b : ∀ t ∈ xTick, 0 < t.toInt ∧ t.toInt ≤ 2000000 := by decide
theorem z_first (hS : zOk S) (hA : zAx S I V ax) (m : Int32) : ∀ ts : List Int32, (∀ t ∈ ts, 0 < t.toInt ∧ t.toInt ≤ 2000000) → mfirst (FX6_ticks I V ax) m ts = FX2_stepFrom S m ts
  | [], _ => rfl
  | t :: ts, h => by
    have hb := h t List.mem_cons_self
    rw [mfirst, FX2_stepFrom, z_first hS hA m ts (fun q hq => h q (List.mem_cons_of_mem _ hq))]
    have e : FX6_ticks I V ax t = FX2_ticksBelowGap S t + FX2_ticksAboveGap S t := zinj (by rw [z_ticksR hS hA hb.1 hb.2, z_ticksC hS hb.1 hb.2])
    rw [e]
    by_cases h2 : FX2_ticksBelowGap S t + FX2_ticksAboveGap S t ≤ m
    · rw [if_pos h2, if_neg (Int32.not_lt.mpr h2)]
    · rw [if_neg h2, if_pos (Int32.not_le.mp h2)]
theorem z_step (hS : zOk S) (hA : zAx S I V ax) (m : Int32) : FX6_stepOf I V ax m = FX2_stepFor S m := z_first hS hA m xTick xTick_b
theorem z_stepB (m : Int32) : ∀ ts : List Int32, (∀ t ∈ ts, 0 < t.toInt ∧ t.toInt ≤ 2000000) → 0 < (FX2_stepFrom S m ts).toInt ∧ (FX2_stepFrom S m ts).toInt ≤ 2000000
  | [], _ => by rw [FX2_stepFrom]; decide
  | t :: ts, h => by
    rw [FX2_stepFrom]
    split
    · exact z_stepB m ts (fun q hq => h q (List.mem_cons_of_mem _ hq))
    · exact h t List.mem_cons_self
theorem z_last (hS : zOk S) (hA : zAx S I V ax) {m : Int32} (hm : ¬ FX6_in m 2 20 = 0) : FX6_ticks I V ax 2000000 ≤ m := by
  have hm := in_iff.mp hm
  rw [fa_le, z_ticksR hS hA (by decide) (by decide), show (2000000 : Int32).toInt = 2000000 from rfl]
  rw [fa_lt, zi2] at hm
  obtain ⟨k1, ⟨k2, k3, k4⟩, k5, k6⟩ := hS
  unfold zN
  by_cases hk : S.1 = 2
  · have := k5 hk
    rw [if_pos hk]; omega
  · rw [if_neg hk]; omega
-- ---- tick
theorem z_up {a t : Int} (ht : 0 < t) : -((-a) / t) = (a - 1) / t + 1 := by
  have e := Int.mul_ediv_add_emod (a - 1) t
  have r0 := Int.emod_nonneg (a - 1) (show t ≠ 0 by omega)
  have r1 := Int.emod_lt_of_pos (a - 1) ht
  have : (-a) / t = -((a - 1) / t) - 1 := zediv ht (r := t - 1 - (a - 1) % t) (by rw [Int.mul_sub, Int.mul_neg, Int.mul_one]; omega) (by omega) (by omega)
  omega
/-- the multiple e, if it lies below the scale's end -/
def zTl (S : xS) (t e : Int) : Int32 := if e ≤ S.2.2.1.toInt / t then Int32.ofInt (e * t) else -2000000000
/-- the tick with rs ahead of it, from the multiple c on -/
def zR (S : xS) (t c rs : Int) : Int32 :=
  if S.1 = 2 then
    (if c ≤ S.2.2.2.1.toInt / t ∧ rs < S.2.2.2.1.toInt / t - c + 1 then Int32.ofInt ((c + rs) * t)
     else zTl S t ((if c ≤ (S.2.2.2.2.1.toInt - 1) / t then (S.2.2.2.2.1.toInt - 1) / t + 1 else c) + (rs - (if c ≤ S.2.2.2.1.toInt / t then S.2.2.2.1.toInt / t - c + 1 else 0))))
  else zTl S t (c + rs)
theorem zR_a {t c rs : Int} (hk : S.1 = 2) (h : c ≤ S.2.2.2.1.toInt / t) (hr : rs < S.2.2.2.1.toInt / t - c + 1) : zR S t c rs = Int32.ofInt ((c + rs) * t) := by
  unfold zR; rw [if_pos hk, if_pos ⟨h, hr⟩]
theorem zR_b {t c rs : Int} (hk : S.1 = 2) (h : c ≤ S.2.2.2.1.toInt / t) (hr : ¬ rs < S.2.2.2.1.toInt / t - c + 1) (hy : c ≤ (S.2.2.2.2.1.toInt - 1) / t) : zR S t c rs = zTl S t ((S.2.2.2.2.1.toInt - 1) / t + 1 + (rs - (S.2.2.2.1.toInt / t - c + 1))) := by
  unfold zR; rw [if_pos hk, if_neg (fun z => hr z.2), if_pos hy, if_pos h]
theorem zR_c {t c rs : Int} (hk : S.1 = 2) (h : ¬ c ≤ S.2.2.2.1.toInt / t) (hy : c ≤ (S.2.2.2.2.1.toInt - 1) / t) : zR S t c rs = zTl S t ((S.2.2.2.2.1.toInt - 1) / t + 1 + rs) := by
  unfold zR; rw [if_pos hk, if_neg (fun z => h z.1), if_pos hy, if_neg h, Int.sub_zero]
theorem zR_d {t c rs : Int} (hk : S.1 = 2) (h : ¬ c ≤ S.2.2.2.1.toInt / t) (hy : ¬ c ≤ (S.2.2.2.2.1.toInt - 1) / t) : zR S t c rs = zTl S t (c + rs) := by
  unfold zR; rw [if_pos hk, if_neg (fun z => h z.1), if_neg hy, if_neg h, Int.sub_zero]
theorem zR_n {t c rs : Int} (hk : ¬ S.1 = 2) : zR S t c rs = zTl S t (c + rs) := if_neg hk
theorem zTl_n {t e : Int} (h : ¬ e ≤ S.2.2.1.toInt / t) : zTl S t e = -2000000000 := if_neg h
theorem zTl_p {t e : Int} (h : e ≤ S.2.2.1.toInt / t) : zTl S t e = Int32.ofInt (e * t) := if_pos h
theorem z_le {a t c : Int} (ht : 0 < t) : c ≤ a / t ↔ c * t ≤ a := Int.le_ediv_iff_mul_le ht
theorem z_tickL (hS : zOk S) (hA : zAx S I V ax) {t : Int32} (ht : 0 < t.toInt) (ht2 : t.toInt ≤ 2000000) : ∀ (n : Nat) (c : Int) (v rs : Int32), v.toInt = c * t.toInt → S.2.1.toInt ≤ v.toInt → 0 ≤ rs.toInt → S.2.2.1.toInt < v.toInt + n → LX6_tick I V ax t n v rs = zR S t.toInt c rs.toInt := by
  have ok := hS
  obtain ⟨k1, ⟨k2, k3, k4⟩, k5, k6⟩ := hS
  have over : ∀ (c : Int) (v rs : Int32), v.toInt = c * t.toInt → S.2.2.1.toInt < v.toInt → 0 ≤ rs.toInt → (-2000000000 : Int32) = zR S t.toInt c rs.toInt := by
    intro c v rs hv hf hrs
    have h1 : ¬ c ≤ S.2.2.1.toInt / t.toInt := by rw [z_le ht]; omega
    by_cases hk : S.1 = 2
    · have := k5 hk
      have h2 : ¬ c ≤ S.2.2.2.1.toInt / t.toInt := by rw [z_le ht]; omega
      have h3 : ¬ c ≤ (S.2.2.2.2.1.toInt - 1) / t.toInt := by rw [z_le ht]; omega
      rw [zR_d hk h2 h3, zTl_n (by omega)]
    · rw [zR_n hk, zTl_n (by omega)]
  intro n
  induction n with
  | zero =>
    intro c v rs hv hlo hrs hf
    rw [LX6_tick]
    exact over c v rs hv (by omega) hrs
  | succ n ih =>
    intro c v rs hv hlo hrs hf
    rw [LX6_tick, hA.2.2.1, z_has hA]
    by_cases hhi : S.2.2.1 < v
    · rw [if_pos hhi]
      rw [fa_lt] at hhi
      exact over c v rs hv hhi hrs
    · rw [if_neg hhi]
      rw [fa_lt] at hhi
      have ev : (v + t).toInt = (c + 1) * t.toInt := by
        rw [fb_addI (by omega) (by omega), hv, Int.add_mul, Int.one_mul]
      have ev2 : (v + t).toInt = v.toInt + t.toInt := fb_addI (by omega) (by omega)
      have cH : c ≤ S.2.2.1.toInt / t.toInt := by rw [z_le ht]; omega
      have em : ¬ rs = 0 → (rs + (-1)).toInt = rs.toInt - 1 := fun z => by
        have e1 : (-1 : Int32).toInt = -1 := rfl
        have := fb_rng rs
        rw [fb_addI] <;> rw [e1] <;> omega
      have rp : ¬ rs = 0 → 1 ≤ rs.toInt := fun z => by
        have : rs.toInt ≠ 0 := fun q => z (zinj q)
        omega
      by_cases hh : FX2_holds S v = 0
      · rw [if_pos hh, ih (c + 1) (v + t) rs ev (by omega) hrs (by omega)]
        have hk : S.1 = 2 := Classical.byContradiction fun z => by
          rw [z_hold hlo (by omega) (fun q => absurd q z)] at hh; exact absurd hh (by decide)
        have hgap : S.2.2.2.1.toInt < v.toInt ∧ v.toInt < S.2.2.2.2.1.toInt := by
          refine Classical.byContradiction fun z => ?_
          rw [z_hold hlo (by omega) (fun q => by omega)] at hh; exact absurd hh (by decide)
        have h2 : ¬ c ≤ S.2.2.2.1.toInt / t.toInt := by rw [z_le ht]; omega
        have h3 : c ≤ (S.2.2.2.2.1.toInt - 1) / t.toInt := by rw [z_le ht]; omega
        rw [zR_c hk h2 h3]
        by_cases h4 : c + 1 ≤ (S.2.2.2.2.1.toInt - 1) / t.toInt
        · rw [zR_c hk (by omega) h4]
        · rw [zR_d hk (by omega) h4, show (S.2.2.2.2.1.toInt - 1) / t.toInt + 1 = c + 1 by omega]
      · rw [if_neg hh]
        have hho := z_holds hh
        have vo : Int32.ofInt (c * t.toInt) = v := by rw [← hv, Int32.ofInt_toInt]
        by_cases hz : rs = 0
        · rw [if_pos hz]
          have r0 : rs.toInt = 0 := by rw [hz]; rfl
          rw [r0]
          by_cases hk : S.1 = 2
          · have kk := k5 hk
            by_cases h2 : c ≤ S.2.2.2.1.toInt / t.toInt
            · rw [zR_a hk h2 (by omega), Int.add_zero, vo]
            · have h5 : S.2.2.2.2.1.toInt ≤ v.toInt := by
                have := hho.2.2 hk
                rw [z_le ht] at h2
                omega
              rw [zR_d hk h2 (by rw [z_le ht]; omega), Int.add_zero, zTl_p cH, vo]
          · rw [zR_n hk, Int.add_zero, zTl_p cH, vo]
        · rw [if_neg hz, ih (c + 1) (v + t) (rs + (-1)) ev (by omega) (by rw [em hz]; have := rp hz; omega) (by omega), em hz]
          have r1 := rp hz
          by_cases hk : S.1 = 2
          · have kk := k5 hk
            by_cases h2 : c ≤ S.2.2.2.1.toInt / t.toInt
            · have h3 : c ≤ (S.2.2.2.2.1.toInt - 1) / t.toInt := by rw [z_le ht] at h2 ⊢; omega
              by_cases h5 : rs.toInt < S.2.2.2.1.toInt / t.toInt - c + 1
              · rw [zR_a hk h2 h5, zR_a hk (by omega) (by omega), show c + 1 + (rs.toInt - 1) = c + rs.toInt by omega]
              · rw [zR_b hk h2 h5 h3]
                by_cases h6 : c + 1 ≤ S.2.2.2.1.toInt / t.toInt
                · have h7 : c + 1 ≤ (S.2.2.2.2.1.toInt - 1) / t.toInt := by
                    have := Int.ediv_le_ediv ht (show S.2.2.2.1.toInt ≤ S.2.2.2.2.1.toInt - 1 by omega)
                    omega
                  rw [zR_b hk h6 (by omega) h7, show rs.toInt - 1 - (S.2.2.2.1.toInt / t.toInt - (c + 1) + 1) = rs.toInt - (S.2.2.2.1.toInt / t.toInt - c + 1) by omega]
                · have h8 : S.2.2.2.1.toInt / t.toInt = c := by omega
                  by_cases h7 : c + 1 ≤ (S.2.2.2.2.1.toInt - 1) / t.toInt
                  · rw [zR_c hk h6 h7, show rs.toInt - (S.2.2.2.1.toInt / t.toInt - c + 1) = rs.toInt - 1 by omega]
                  · rw [zR_d hk h6 h7, show (S.2.2.2.2.1.toInt - 1) / t.toInt + 1 + (rs.toInt - (S.2.2.2.1.toInt / t.toInt - c + 1)) = c + 1 + (rs.toInt - 1) by omega]
            · have h5 : S.2.2.2.2.1.toInt ≤ v.toInt := by
                have := hho.2.2 hk
                rw [z_le ht] at h2
                omega
              have h6 : ¬ c ≤ (S.2.2.2.2.1.toInt - 1) / t.toInt := by rw [z_le ht]; omega
              rw [zR_d hk h2 h6, zR_d hk (by omega) (by omega), show c + 1 + (rs.toInt - 1) = c + rs.toInt by omega]
          · rw [zR_n hk, zR_n hk, show c + 1 + (rs.toInt - 1) = c + rs.toInt by omega]
theorem z_firstM (hS : zOk S) {a t : Int32} (ht : 0 < t.toInt) (ht2 : t.toInt ≤ 2000000) (ha : -1000000 ≤ a.toInt) (ha2 : a.toInt ≤ 1000000) : (FX2_firstMultiple a t).toInt = ((a.toInt - 1) / t.toInt + 1) * t.toInt ∧ a.toInt ≤ ((a.toInt - 1) / t.toInt + 1) * t.toInt ∧ ((a.toInt - 1) / t.toInt + 1) * t.toInt ≤ a.toInt - 1 + t.toInt := by
  have e := Int.mul_ediv_add_emod (a.toInt - 1) t.toInt
  have r0 := Int.emod_nonneg (a.toInt - 1) (show t.toInt ≠ 0 by omega)
  have r1 := Int.emod_lt_of_pos (a.toInt - 1) ht
  have e2 : ((a.toInt - 1) / t.toInt + 1) * t.toInt = t.toInt * ((a.toInt - 1) / t.toInt) + t.toInt := by rw [Int.add_mul, Int.one_mul, Int.mul_comm]
  have e1 : (a - 1).toInt = a.toInt - 1 := by rw [fb_subI] <;> rw [zi1] <;> omega
  have q := z_dq ht (a := a.toInt - 1) (by omega) (by omega)
  refine ⟨?_, by omega, by omega⟩
  unfold FX2_firstMultiple
  have e3 : (FJ9_floorDiv_7cf53 (a - 1) t + 1).toInt = (a.toInt - 1) / t.toInt + 1 := by rw [fb_addI] <;> rw [zfd ht, e1, zi1] <;> omega
  rw [if_pos (by rw [fa_lt, zi0]; exact ht), fb_mulI] <;> rw [e3] <;> omega
theorem z_tickC (hS : zOk S) {m k : Int32} {t : Int32} (et : FX2_stepFor S m = t) (ht : 0 < t.toInt) (ht2 : t.toInt ≤ 2000000) (hk0 : 0 ≤ k.toInt) : FX2_tickAt S m k = zR S t.toInt ((S.2.1.toInt - 1) / t.toInt + 1) k.toInt := by
  have hbe := z_belowC hS ht ht2
  have hab := z_aboveC hS ht ht2
  have ok := hS
  obtain ⟨k1, ⟨k2, k3, k4⟩, k5, k6⟩ := hS
  have f1 := z_firstM ok ht ht2 (a := S.2.1) (by omega) (by omega)
  have q1 := z_dq ht (a := S.2.1.toInt - 1) (by omega) (by omega)
  have q2 := z_dq ht (a := S.2.2.1.toInt) (by omega) (by omega)
  have hr := fb_rng k
  unfold FX2_tickAt
  rw [et, if_pos (by rw [fa_le, zi0]; exact hk0)]
  -- a sum that stays within the scale
  have sum : ∀ (a : Int32) (c r : Int) (x : Int32), a.toInt = c * t.toInt → x.toInt = r → 0 ≤ r → -1000000 ≤ a.toInt → (c + r) * t.toInt ≤ 1000000 → (a + x * t).toInt = (c + r) * t.toInt := fun a c r x ea ex r0 a0 hs => by
    have p0 : 0 ≤ r * t.toInt := Int.mul_nonneg r0 (by omega)
    rw [Int.add_mul] at hs ⊢
    have e1 : (x * t).toInt = r * t.toInt := by rw [fb_mulI] <;> rw [ex] <;> omega
    rw [fb_addI] <;> rw [ea, e1] <;> omega
  have c0 : ∀ a : Int, (S.2.1.toInt - 1) / t.toInt + 1 ≤ a ↔ (S.2.1.toInt - 1) / t.toInt < a := fun a => by omega
  by_cases hk : S.1 = 2
  · have kk := k5 hk
    have q3 := z_dq ht (a := S.2.2.2.1.toInt) (by omega) (by omega)
    have q4 := z_dq ht (a := S.2.2.2.2.1.toInt - 1) (by omega) (by omega)
    have f2 := z_firstM ok ht ht2 (a := S.2.2.2.2.1) (by omega) (by omega)
    rw [if_pos hk] at hbe hab
    have m1 : (S.2.1.toInt - 1) / t.toInt ≤ S.2.2.2.1.toInt / t.toInt := Int.ediv_le_ediv ht (by omega)
    have m2 : S.2.2.2.1.toInt / t.toInt ≤ (S.2.2.2.2.1.toInt - 1) / t.toInt := Int.ediv_le_ediv ht (by omega)
    by_cases h1 : FX2_ticksBelowGap S t ≤ k
    · rw [if_pos h1]
      rw [fa_le, hbe] at h1
      have e1 : (k - FX2_ticksBelowGap S t).toInt = k.toInt - (S.2.2.2.1.toInt / t.toInt - (S.2.1.toInt - 1) / t.toInt) := by rw [fb_subI] <;> rw [hbe] <;> omega
      have eZ : zR S t.toInt ((S.2.1.toInt - 1) / t.toInt + 1) k.toInt = zTl S t.toInt ((S.2.2.2.2.1.toInt - 1) / t.toInt + 1 + (k.toInt - (S.2.2.2.1.toInt / t.toInt - (S.2.1.toInt - 1) / t.toInt))) := by
        by_cases h6 : (S.2.1.toInt - 1) / t.toInt + 1 ≤ S.2.2.2.1.toInt / t.toInt
        · rw [zR_b hk h6 (by omega) (by omega), show k.toInt - (S.2.2.2.1.toInt / t.toInt - ((S.2.1.toInt - 1) / t.toInt + 1) + 1) = k.toInt - (S.2.2.2.1.toInt / t.toInt - (S.2.1.toInt - 1) / t.toInt) by omega]
        · by_cases h7 : (S.2.1.toInt - 1) / t.toInt + 1 ≤ (S.2.2.2.2.1.toInt - 1) / t.toInt
          · rw [zR_c hk h6 h7, show k.toInt - (S.2.2.2.1.toInt / t.toInt - (S.2.1.toInt - 1) / t.toInt) = k.toInt by omega]
          · rw [zR_d hk h6 h7, show (S.2.2.2.2.1.toInt - 1) / t.toInt + 1 + (k.toInt - (S.2.2.2.1.toInt / t.toInt - (S.2.1.toInt - 1) / t.toInt)) = (S.2.1.toInt - 1) / t.toInt + 1 + k.toInt by omega]
      rw [eZ]
      by_cases h2 : FX2_ticksAboveGap S t ≤ k - FX2_ticksBelowGap S t
      · rw [if_pos h2]
        rw [fa_le, hab, e1] at h2
        rw [zTl_n (by omega)]
      · rw [if_neg h2]
        rw [fa_le, hab, e1] at h2
        have h3 : (S.2.2.2.2.1.toInt - 1) / t.toInt + 1 + (k.toInt - (S.2.2.2.1.toInt / t.toInt - (S.2.1.toInt - 1) / t.toInt)) ≤ S.2.2.1.toInt / t.toInt := by omega
        rw [zTl_p h3]
        rw [z_le ht] at h3
        have r0 : S.2.2.2.2.1.toInt ≤ ((S.2.2.2.2.1.toInt - 1) / t.toInt + 1) * t.toInt := f2.2.1
        have es := sum (FX2_firstMultiple S.2.2.2.2.1 t) _ _ (k - FX2_ticksBelowGap S t) f2.1 e1 (by omega) (by rw [f2.1]; omega) (by omega)
        refine zinj ?_
        have p0 : 0 ≤ (k.toInt - (S.2.2.2.1.toInt / t.toInt - (S.2.1.toInt - 1) / t.toInt)) * t.toInt := Int.mul_nonneg (by omega) (by omega)
        have lb : -1000000 ≤ ((S.2.2.2.2.1.toInt - 1) / t.toInt + 1 + (k.toInt - (S.2.2.2.1.toInt / t.toInt - (S.2.1.toInt - 1) / t.toInt))) * t.toInt := by rw [Int.add_mul]; omega
        rw [es, fb_ofI (by omega) (by omega)]
    · rw [if_neg h1]
      rw [fa_le, hbe] at h1
      rw [zR_a hk (by omega) (by omega)]
      have h3 : (S.2.1.toInt - 1) / t.toInt + 1 + k.toInt ≤ S.2.2.2.1.toInt / t.toInt := by omega
      rw [z_le ht] at h3
      have es := sum (FX2_firstMultiple S.2.1 t) _ _ k f1.1 rfl hk0 (by rw [f1.1]; omega) (by omega)
      have p0 : 0 ≤ k.toInt * t.toInt := Int.mul_nonneg (by omega) (by omega)
      have lb : -1000000 ≤ ((S.2.1.toInt - 1) / t.toInt + 1 + k.toInt) * t.toInt := by rw [Int.add_mul]; omega
      refine zinj ?_
      rw [es, fb_ofI (by omega) (by omega)]
  · rw [if_neg hk] at hbe hab
    rw [zR_n hk]
    have m1 : (S.2.1.toInt - 1) / t.toInt ≤ S.2.2.1.toInt / t.toInt := Int.ediv_le_ediv ht (by omega)
    by_cases h1 : FX2_ticksBelowGap S t ≤ k
    · rw [if_pos h1]
      rw [fa_le, hbe] at h1
      have e1 : (k - FX2_ticksBelowGap S t).toInt = k.toInt - (S.2.2.1.toInt / t.toInt - (S.2.1.toInt - 1) / t.toInt) := by
        rw [fb_subI] <;> rw [hbe] <;> omega
      rw [if_pos (by rw [fa_le, hab, e1]; omega), zTl_n (by omega)]
    · rw [if_neg h1]
      rw [fa_le, hbe] at h1
      have h3 : (S.2.1.toInt - 1) / t.toInt + 1 + k.toInt ≤ S.2.2.1.toInt / t.toInt := by omega
      rw [zTl_p h3]
      rw [z_le ht] at h3
      have es := sum (FX2_firstMultiple S.2.1 t) _ _ k f1.1 rfl hk0 (by rw [f1.1]; omega) (by omega)
      have p0 : 0 ≤ k.toInt * t.toInt := Int.mul_nonneg (by omega) (by omega)
      have lb : -1000000 ≤ ((S.2.1.toInt - 1) / t.toInt + 1 + k.toInt) * t.toInt := by rw [Int.add_mul]; omega
      refine zinj ?_
      rw [es, fb_ofI (by omega) (by omega)]
/-- where the reference begins -/
theorem z_from (hS : zOk S) (hA : zAx S I V ax) {t : Int32} (ht : 0 < t.toInt) (ht2 : t.toInt ≤ 2000000) : ((-FX6_floor (-V 3 (Int32.toNatClampNeg ax)) t) * t).toInt = ((S.2.1.toInt - 1) / t.toInt + 1) * t.toInt := by
  have ok := hS
  obtain ⟨k1, ⟨k2, k3, k4⟩, k5, k6⟩ := hS
  rw [hA.2.1]
  have f1 := z_firstM ok ht ht2 (a := S.2.1) (by omega) (by omega)
  have q1 := z_dq ht (a := S.2.1.toInt - 1) (by omega) (by omega)
  have e1 : (-S.2.1).toInt = -S.2.1.toInt := fb_negI (by omega)
  have e2 : (FX6_floor (-S.2.1) t).toInt = (-S.2.1.toInt) / t.toInt := by rw [zfl ht (by rw [e1]; omega), e1]
  have e3 := z_up (a := S.2.1.toInt) ht
  have e4 : (-FX6_floor (-S.2.1) t).toInt = (S.2.1.toInt - 1) / t.toInt + 1 := by rw [fb_negI (by rw [e2]; omega), e2, e3]
  rw [fb_mulI] <;> rw [e4] <;> omega
theorem z_tickR (hS : zOk S) (hA : zAx S I V ax) {m k : Int32} (hax : ¬ FX6_isAxis ax = 0) (hm : ¬ FX6_in m 2 20 = 0) : FX6_tick I V ax m k = FX2_tickAt S m k := by
  have hb := z_stepB (S := S) m xTick xTick_b
  have ht : 0 < (FX2_stepFor S m).toInt := hb.1
  have ht2 : (FX2_stepFor S m).toInt ≤ 2000000 := hb.2
  unfold FX6_tick
  rw [if_neg hax, if_neg hm]
  by_cases h : 0 ≤ k
  · rw [if_pos h]
    rw [fa_le, zi0] at h
    rw [z_tickC hS rfl ht ht2 h]
    unfold FX6_tickL
    rw [z_step hS hA]
    have hf := z_from hS hA ht ht2
    have f1 := z_firstM hS ht ht2 (a := S.2.1) (by have := hS.2.1; omega) (by have := hS.2.1; omega)
    have h2 := hS.2.1
    exact z_tickL hS hA ht ht2 _ _ _ _ hf (by rw [hf]; exact f1.2.1) h (by rw [hf, hA.2.2.1]; omega)
  · rw [if_neg h]
    unfold FX2_tickAt
    rw [if_neg h]
end ZK
