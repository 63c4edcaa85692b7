/-! PURE: value, step, tick -/
theorem fb_ofI {z : Int} (h1 : -2147483648 ≤ z) (h2 : z < 2147483648) : (Int32.ofInt z).toInt = z := by
  rw [Int32.toInt_ofInt, fb_bmod h1 h2]
section ZV
variable {S : xS} {I : xMi} {V : Nat → Nat → Int32} {ax v : Int32}
theorem srch_spec {g : Nat → Int32} {t : Int32} {sp T : Nat} (hg : ∀ x, x ≤ sp → (g x < t ↔ x < T)) : ∀ (n a b : Nat), a ≤ T → T ≤ b → b ≤ sp → b ≤ a + n → LX6_srch g t n a b = T := by
  intro n
  induction n with
  | zero => intro a b h1 h2 h3 h4; rw [LX6_srch]; omega
  | succ n ih =>
    intro a b h1 h2 h3 h4
    rw [LX6_srch]
    by_cases h : b ≤ a
    · rw [if_pos h]; omega
    · rw [if_neg h]
      by_cases h5 : g ((a + b) / 2) < t
      · rw [if_pos h5]
        have := (hg _ (by omega)).mp h5
        exact ih _ _ (by omega) h2 h3 (by omega)
      · rw [if_neg h5]
        have : ¬ (a + b) / 2 < T := fun z => h5 ((hg _ (by omega)).mpr z)
        exact ih _ _ h1 (by omega) (by omega) (by omega)
/-- the dot, counted upwards -/
def zU (S : xS) (v : Int32) : Int := if S.1 = 1 then S.2.2.2.2.2.toInt - 1 - v.toInt else v.toInt
/-- how far along the first value of a dot lies -/
def zT (S : xS) (v : Int32) : Int := if 0 < -((-(zS S * (2 * zU S v - 1))) / (2 * (S.2.2.2.2.2.toInt - 1))) then -((-(zS S * (2 * zU S v - 1))) / (2 * (S.2.2.2.2.2.toInt - 1))) else 0
theorem z_u (hS : zOk S) (h0 : 0 ≤ v.toInt) (h1 : v.toInt < S.2.2.2.2.2.toInt) : ((if S.1 = (1 : Int32) then ((S.2.2.2.2.2 - (1 : Int32)) - v) else v) : Int32).toInt = zU S v ∧ 0 ≤ zU S v ∧ zU S v ≤ S.2.2.2.2.2.toInt - 1 := by
  obtain ⟨-, -, -, h5, h6⟩ := hS
  unfold zU
  by_cases h : S.1 = 1
  · rw [if_pos h, if_pos h]
    have m2 : (S.2.2.2.2.2 - 1).toInt = S.2.2.2.2.2.toInt - 1 := by rw [fb_subI] <;> rw [zi1] <;> omega
    rw [fb_subI (by rw [m2]; omega) (by rw [m2]; omega), m2]; omega
  · rw [if_neg h, if_neg h]; omega
theorem z_tlt (hS : zOk S) (x : Int) (hx : 0 ≤ x) : zD (zS S) S.2.2.2.2.2.toInt x < zU S v ↔ x < zT S v := by
  have hs := z_l0 hS
  obtain ⟨-, -, -, h5, h6⟩ := hS
  unfold zD zT
  rw [Int.ediv_lt_iff_lt_mul (by omega)]
  have e : ∀ c : Int, (x < (if 0 < c then c else 0)) ↔ x < c := fun c => by split <;> omega
  rw [e, show (x < -((-(zS S * (2 * zU S v - 1))) / (2 * (S.2.2.2.2.2.toInt - 1)))) ↔ ((-(zS S * (2 * zU S v - 1))) / (2 * (S.2.2.2.2.2.toInt - 1)) < -x) from by constructor <;> intro z <;> omega]
  rw [Int.ediv_lt_iff_lt_mul (by omega)]
  have e1 : zU S v * (2 * zS S) = 2 * (zS S * zU S v) := by rw [Int.mul_comm (zU S v), Int.mul_assoc]
  have e2 : zS S * (2 * zU S v - 1) = 2 * (zS S * zU S v) - zS S := by rw [Int.mul_sub, Int.mul_one, ← Int.mul_assoc, Int.mul_comm (zS S) 2, Int.mul_assoc]
  have e3 : -x * (2 * (S.2.2.2.2.2.toInt - 1)) = -(2 * x * (S.2.2.2.2.2.toInt - 1)) := by rw [Int.neg_mul, ← Int.mul_assoc, Int.mul_comm x 2]
  rw [e1, e2, e3]
  omega
theorem z_tB (hS : zOk S) (h0 : 0 ≤ v.toInt) (h1 : v.toInt < S.2.2.2.2.2.toInt) : 0 ≤ zT S v ∧ zT S v ≤ zS S := by
  have hs := z_l0 hS
  have hu := z_u hS h0 h1
  refine ⟨by unfold zT; split <;> omega, ?_⟩
  have h := (z_tlt (v := v) hS (zS S) (by omega))
  have b : zD (zS S) S.2.2.2.2.2.toInt (zS S) = S.2.2.2.2.2.toInt - 1 := by
    unfold zD
    exact zediv (by omega) (r := zS S) (by rw [Int.mul_assoc]) (by omega) (by omega)
  rw [b] at h
  have : ¬ zS S < zT S v := fun z => by have := h.mpr z; omega
  omega
theorem z_aOf (hS : zOk S) (h0 : 0 ≤ v.toInt) (h1 : v.toInt < S.2.2.2.2.2.toInt) : (FX2_aOf S v).toInt = zT S v := by
  have hs := z_l0 hS
  have hu := z_u hS h0 h1
  have hsp := z_span hS
  have hb := z_tB hS h0 h1
  unfold FX2_aOf
  obtain ⟨-, -, -, h5, h6⟩ := hS
  generalize hX : ((if S.1 = (1 : Int32) then ((S.2.2.2.2.2 - (1 : Int32)) - v) else v) : Int32) = X at hu ⊢
  generalize hY : ((S.2.2.1 - S.2.1) - (FX2_leftOut S)) = Y at hsp ⊢
  have m1 : (-Y).toInt = -zS S := by rw [fb_negI (by omega), hsp]
  have m2 : (2 * X).toInt = 2 * zU S v := by rw [fb_mulI] <;> rw [zi2, hu.1] <;> omega
  have m3 : (2 * X - 1).toInt = 2 * zU S v - 1 := by rw [fb_subI] <;> rw [m2, zi1] <;> omega
  have p1 : zS S * (2 * zU S v - 1) ≤ 2000000 * 160 := by
    by_cases z : 0 ≤ 2 * zU S v - 1
    · exact zmul_le (by omega) (by omega) z (by omega)
    · have : zU S v = 0 := by omega
      rw [this]; omega
  have p0 : -2000000 ≤ zS S * (2 * zU S v - 1) := by
    by_cases z : 0 ≤ 2 * zU S v - 1
    · have := Int.mul_nonneg (show 0 ≤ zS S by omega) z; omega
    · have : zU S v = 0 := by omega
      rw [this]; omega
  have m4 : ((-Y) * (2 * X - 1)).toInt = -(zS S * (2 * zU S v - 1)) := by rw [fb_mulI] <;> rw [m1, m3, Int.neg_mul] <;> omega
  have m5 : (S.2.2.2.2.2 - 1).toInt = S.2.2.2.2.2.toInt - 1 := by rw [fb_subI] <;> rw [zi1] <;> omega
  have m6 : (2 * (S.2.2.2.2.2 - 1)).toInt = 2 * (S.2.2.2.2.2.toInt - 1) := by rw [fb_mulI] <;> rw [zi2, m5] <;> omega
  have m7 : (FJ9_floorDiv_7cf53 ((-Y) * (2 * X - 1)) (2 * (S.2.2.2.2.2 - 1))).toInt = (-(zS S * (2 * zU S v - 1))) / (2 * (S.2.2.2.2.2.toInt - 1)) := by rw [zfd (by rw [m6]; omega), m4, m6]
  have hd : zT S v = if 0 < -((-(zS S * (2 * zU S v - 1))) / (2 * (S.2.2.2.2.2.toInt - 1))) then -((-(zS S * (2 * zU S v - 1))) / (2 * (S.2.2.2.2.2.toInt - 1))) else 0 := rfl
  have lo : -2147483648 < (-(zS S * (2 * zU S v - 1))) / (2 * (S.2.2.2.2.2.toInt - 1)) := by
    have : -2147483647 ≤ (-(zS S * (2 * zU S v - 1))) / (2 * (S.2.2.2.2.2.toInt - 1)) := Int.le_ediv_of_mul_le (by omega) (by omega)
    omega
  generalize FJ9_floorDiv_7cf53 ((-Y) * (2 * X - 1)) (2 * (S.2.2.2.2.2 - 1)) = D at m7 ⊢
  rw [← m7] at hd lo
  have m8 : (-D).toInt = -D.toInt := fb_negI (by omega)
  rw [hd]
  by_cases h : (0 : Int32) < -D
  · rw [if_pos h, if_pos (by rw [fa_lt, m8, zi0] at h; exact h), m8]
  · rw [if_neg h, if_neg (by rw [fa_lt, m8, zi0] at h; exact h)]; rfl
/-- the least value of a dot -/
def zW (S : xS) (v : Int32) : Int := if S.1 = 2 then (if S.2.1.toInt + zT S v ≤ S.2.2.2.1.toInt then S.2.1.toInt + zT S v else S.2.1.toInt + zT S v + zL S) else S.2.1.toInt + zT S v
theorem z_valC (hS : zOk S) : FX2_leastValueAt S v = if 0 ≤ v.toInt ∧ v.toInt < S.2.2.2.2.2.toInt ∧ zD (zS S) S.2.2.2.2.2.toInt (zT S v) = zU S v then Int32.ofInt (zW S v) else (-2000000000) := by
  have hs := z_l0 hS
  have hl := z_left hS
  unfold FX2_leastValueAt
  rw [if_neg (by rw [fa_lt, zi2]; have := hS.2.2.2; omega)]
  by_cases h0 : v < 0
  · rw [if_pos h0, if_neg (fun z => by rw [fa_lt, zi0] at h0; omega)]
  · rw [if_neg h0]
    by_cases h1 : v < S.2.2.2.2.2
    · rw [if_pos h1]
      rw [fa_lt] at h0 h1
      rw [zi0] at h0
      have h0' : 0 ≤ v.toInt := by omega
      have ha := z_aOf hS h0' h1
      have hb := z_tB hS h0' h1
      have hu := z_u hS h0' h1
      have ok := hS
      obtain ⟨k1, ⟨k2, k3, k4⟩, k5, k6⟩ := hS
      have m1 : (S.2.1 + FX2_aOf S v).toInt = S.2.1.toInt + zT S v := by
        unfold zS at hb hs
        rw [fb_addI] <;> rw [ha] <;> omega
      have m2 : ((S.2.1 + FX2_aOf S v) + FX2_leftOut S).toInt = S.2.1.toInt + zT S v + zL S := by
        unfold zS at hb hs
        rw [fb_addI] <;> rw [m1, hl] <;> omega
      have mw : ((if S.1 = (2 : Int32) then (if (S.2.1 + (FX2_aOf S v)) ≤ S.2.2.2.1 then (S.2.1 + (FX2_aOf S v)) else ((S.2.1 + (FX2_aOf S v)) + (FX2_leftOut S))) else (S.2.1 + (FX2_aOf S v))) : Int32).toInt = zW S v := by
        unfold zW
        by_cases hk : S.1 = 2
        · rw [if_pos hk, if_pos hk]
          by_cases hf : (S.2.1 + (FX2_aOf S v)) ≤ S.2.2.2.1
          · rw [if_pos hf, if_pos (by rw [fa_le, m1] at hf; exact hf), m1]
          · rw [if_neg hf, if_neg (by rw [fa_le, m1] at hf; exact hf), m2]
        · rw [if_neg hk, if_neg hk, m1]
      generalize ((if S.1 = (2 : Int32) then (if (S.2.1 + (FX2_aOf S v)) ≤ S.2.2.2.1 then (S.2.1 + (FX2_aOf S v)) else ((S.2.1 + (FX2_aOf S v)) + (FX2_leftOut S))) else (S.2.1 + (FX2_aOf S v))) : Int32) = w at mw ⊢
      have hw : FX2_holds S w = 1 ∧ zA S w = zT S v := by
        unfold zW at mw
        by_cases hk : S.1 = 2
        · have eL : zL S = S.2.2.2.2.1.toInt - S.2.2.2.1.toInt := if_pos hk
          have := k5 hk
          unfold zS at hb
          rw [if_pos hk] at mw
          by_cases hf : S.2.1.toInt + zT S v ≤ S.2.2.2.1.toInt
          · rw [if_pos hf] at mw
            refine ⟨z_hold (by omega) (by omega) (fun _ => by omega), ?_⟩
            unfold zA; rw [if_neg (fun z => by omega)]; omega
          · rw [if_neg hf] at mw
            refine ⟨z_hold (by omega) (by omega) (fun _ => by omega), ?_⟩
            unfold zA; rw [if_pos ⟨hk, by omega⟩]; omega
        · have eL : zL S = 0 := if_neg hk
          unfold zS at hb
          rw [if_neg hk] at mw
          refine ⟨z_hold (by omega) (by omega) (fun z => absurd z hk), ?_⟩
          unfold zA; rw [if_neg (fun z => hk z.1)]; omega
      have b := zD_b (n := S.2.2.2.2.2.toInt) hb.1 hb.2 hs.2.2.1 (by omega)
      have ew : w = Int32.ofInt (zW S v) := by rw [← mw, Int32.ofInt_toInt]
      have ep : FX2_placeOf S w = v ↔ zD (zS S) S.2.2.2.2.2.toInt (zT S v) = zU S v := by
        rw [z_plC ok, if_neg (by rw [hw.1]; decide), hw.2, fa_eq]
        unfold zU
        by_cases hk : S.1 = 1
        · rw [if_pos hk, if_pos hk, fb_ofI (by omega) (by omega)]; constructor <;> intro z <;> omega
        · rw [if_neg hk, if_neg hk, fb_ofI (by omega) (by omega)]
      by_cases he : zD (zS S) S.2.2.2.2.2.toInt (zT S v) = zU S v
      · rw [if_pos (ep.mpr he), if_pos ⟨h0', h1, he⟩, ew]
      · rw [if_neg (fun z => he (ep.mp z)), if_neg (fun z => he z.2.2)]
    · rw [if_neg h1, if_neg (fun z => by rw [fa_lt] at h1; omega)]
theorem z_valR (hS : zOk S) (hA : zAx S I V ax) (hax : ¬ FX6_isAxis ax = 0) : FX6_value I V ax v (zS S).toNat = FX2_leastValueAt S v := by
  have hs := z_l0 hS
  have hl := z_left hS
  have hd := hS.2.2.2
  rw [z_valC hS]
  unfold FX6_value
  rw [if_neg hax, hA.2.2.2.2.2]
  have m2 : (S.2.2.2.2.2 - 1).toInt = S.2.2.2.2.2.toInt - 1 := by rw [fb_subI] <;> rw [zi1] <;> omega
  by_cases h : FX6_in v 0 (S.2.2.2.2.2 - 1) = 0
  · rw [if_pos h, if_neg (fun z => ?_)]
    refine absurd h (in_iff.mpr ⟨?_, ?_⟩)
    · rw [fa_lt, zi0]; omega
    · rw [fa_lt, m2]; omega
  · rw [if_neg h]
    have hin := in_iff.mp h
    rw [fa_lt, fa_lt, zi0, m2] at hin
    have h0 : 0 ≤ v.toInt := by omega
    have h1 : v.toInt < S.2.2.2.2.2.toInt := by omega
    have hu := z_u hS h0 h1
    have hb := z_tB hS h0 h1
    have eD : mvD I V ax v = ((if S.1 = (1 : Int32) then ((S.2.2.2.2.2 - (1 : Int32)) - v) else v) : Int32) := by unfold mvD; rw [hA.1, hA.2.2.2.2.2]
    have eDi : (mvD I V ax v).toInt = zU S v := by rw [eD]; exact hu.1
    have eS : mvS I V ax v (zS S).toNat = (zT S v).toNat := by
      unfold mvS
      refine srch_spec (sp := (zS S).toNat) (fun x hx => ?_) _ _ _ (by omega) (by omega) (by omega) (by omega)
      have hq : (qN x).toInt = (x : Int) := qN_toInt (by omega)
      rw [fa_lt, eDi, z_dotL hS hA (by rw [hq]; omega) (by rw [hq]; omega), hq, z_tlt hS _ (by omega)]
      omega
    have hq : (qN (zT S v).toNat).toInt = zT S v := by rw [qN_toInt (by omega)]; omega
    have hdt := z_dotL hS hA (a := qN (zT S v).toNat) (by rw [hq]; omega) (by rw [hq]; omega)
    rw [hq] at hdt
    unfold FX6_valT
    rw [eS, hA.1, hA.2.1, hA.2.2.2.1, (z_spanL hS hA).2]
    by_cases he : zD (zS S) S.2.2.2.2.2.toInt (zT S v) = zU S v
    · rw [if_pos (by rw [fa_eq, hdt, eDi]; exact he), if_pos (c := 0 ≤ v.toInt ∧ v.toInt < S.2.2.2.2.2.toInt ∧ zD (zS S) S.2.2.2.2.2.toInt (zT S v) = zU S v) ⟨h0, h1, he⟩]
      refine zinj ?_
      obtain ⟨k1, ⟨k2, k3, k4⟩, k5, k6⟩ := hS
      have hbb := hb
      unfold zS at hbb hs
      have m1 : (S.2.1.toInt64 + qN (zT S v).toNat).toInt = S.2.1.toInt + zT S v := by rw [fb_addL] <;> rw [Int32.toInt_toInt64, hq] <;> omega
      have m3 : ((S.2.1.toInt64 + qN (zT S v).toNat) + (FX2_leftOut S).toInt64).toInt = S.2.1.toInt + zT S v + zL S := by rw [fb_addL] <;> rw [m1, Int32.toInt_toInt64, hl] <;> omega
      rw [Int64.toInt_toInt32]
      have mw : ((if S.1 = (2 : Int32) then (if (lg_cmp (S.2.1.toInt64 + qN (zT S v).toNat) S.2.2.2.1.toInt64) ≤ 0 then (S.2.1.toInt64 + qN (zT S v).toNat) else ((S.2.1.toInt64 + qN (zT S v).toNat) + (FX2_leftOut S).toInt64)) else (S.2.1.toInt64 + qN (zT S v).toNat)) : Int64).toInt = zW S v := by
        unfold zW
        by_cases hk : S.1 = 2
        · rw [if_pos hk, if_pos hk]
          have ec : (lg_cmp (S.2.1.toInt64 + qN (zT S v).toNat) S.2.2.2.1.toInt64) ≤ 0 ↔ S.2.1.toInt + zT S v ≤ S.2.2.2.1.toInt := by
            have e2 : S.2.1.toInt64 + qN (zT S v).toNat ≤ S.2.2.2.1.toInt64 ↔ S.2.1.toInt + zT S v ≤ S.2.2.2.1.toInt := by rw [fa_le64, m1, Int32.toInt_toInt64]
            rw [← e2]
            exact lg_cmp_le _ _
          by_cases hf : S.2.1.toInt + zT S v ≤ S.2.2.2.1.toInt
          · rw [if_pos (ec.mpr hf), if_pos hf, m1]
          · rw [if_neg (fun z => hf (ec.mp z)), if_neg hf, m3]
        · rw [if_neg hk, if_neg hk, m1]
      rw [mw]
      have wb : -2147483648 ≤ zW S v ∧ zW S v < 2147483648 := by
        unfold zW; split <;> (try split) <;> omega
      rw [fb_bmod wb.1 wb.2, fb_ofI wb.1 wb.2]
    · rw [if_neg (fun z => he (by rw [fa_eq, hdt, eDi] at z; exact z)), if_neg (fun z => he z.2.2)]
end ZV
