/-! THE LAW: its loop -/
section ZL3
variable {P : State → Prop} {G : xG} {l : Launch} {b sl sc sm k n : Nat} {xs : Nat → Int32} {i : Int32} {nm : String} {h : xH} {Q : Option Value → xH → Prop}

theorem kL_turn (hs : ∀ s : State, P s → xK G s → va_T .int b sl (fun j => .int (xs j)) (fun q => xB G ≤ q) s (xH0 G)) (h0 : vp_in i sl) (h1 : vp_in (i + 1) sl) (h2 : vp_in (i + 2) sl) (h3 : vp_in (i + 3) sl) (h4 : vp_in (i + 4) sl) (hT3 : xT3 G < xB G) (hi : zInv G sc sm h) (hk : k + 9 ≤ 600000) (hn : n + 1400 ≤ 7302250) (kk : ∀ h8, zInv G sc sm h8 → xW P G l (mL9 nm) 11 600000 7302250 (k + 9) (n + 1400) 1004 [.ref b, .ref sc, .ref sm, .int i] [] h8 Q) : xW P G l (mL9 nm) 11 600000 7302250 k n 26 [.ref b, .ref sc, .ref sm, .int i] [] h Q := by
  refine w_aload_n dL_law_26 rfl ?_
  refine w_iload_n dL_law_27 rfl ?_
  refine w_tld dL_law_28 hs h0 ?_
  refine w_bipush (v := 31) dL_law_29 (by decide) ?_
  refine w_iand dL_law_31 ?_
  generalize (xs (Int32.toNatClampNeg i)) &&& 31 = x
  by_cases hx : x.toInt < 0 ∨ 24 < x.toInt
  · refine w_tout (tgt := 1004) dL_law_32 hx (by decide) ?_
    exact xW.wd (by omega) (by omega) (kk h hi)
  rcases (show x.toInt = 0 ∨ x.toInt = 1 ∨ x.toInt = 2 ∨ x.toInt = 3 ∨ x.toInt = 4 ∨ x.toInt = 5 ∨ x.toInt = 6 ∨ x.toInt = 7 ∨ x.toInt = 8 ∨ x.toInt = 9 ∨ x.toInt = 10 ∨ x.toInt = 11 ∨ x.toInt = 12 ∨ x.toInt = 13 ∨ x.toInt = 14 ∨ x.toInt = 15 ∨ x.toInt = 16 ∨ x.toInt = 17 ∨ x.toInt = 18 ∨ x.toInt = 19 ∨ x.toInt = 20 ∨ x.toInt = 21 ∨ x.toInt = 22 ∨ x.toInt = 23 ∨ x.toInt = 24 by omega) with e | e | e | e | e | e | e | e | e | e | e | e | e | e | e | e | e | e | e | e | e | e | e | e | e
  · refine w_tin (off := 116) (tgt := 148) dL_law_32 (by omega) (by omega) (by rw [e]; rfl) (by decide) ?_
    exact kL_canvas hs h1 h2 h3 h4 hT3 hi hk hn kk
  · refine w_tin (off := 149) (tgt := 181) dL_law_32 (by omega) (by omega) (by rw [e]; rfl) (by decide) ?_
    exact kL_scale hs h1 h2 h3 h4 hT3 hi hk hn kk
  · refine w_tin (off := 202) (tgt := 234) dL_law_32 (by omega) (by omega) (by rw [e]; rfl) (by decide) ?_
    exact kL_cut hs h1 h2 h3 h4 hT3 hi hk hn kk
  · refine w_tin (off := 245) (tgt := 277) dL_law_32 (by omega) (by omega) (by rw [e]; rfl) (by decide) ?_
    exact kL_fit hs h1 h2 h3 h4 hT3 hi hk hn kk
  · refine w_tin (off := 268) (tgt := 300) dL_law_32 (by omega) (by omega) (by rw [e]; rfl) (by decide) ?_
    exact kL_place hs h1 h2 h3 h4 hT3 hi hk hn kk
  · refine w_tin (off := 301) (tgt := 333) dL_law_32 (by omega) (by omega) (by rw [e]; rfl) (by decide) ?_
    exact kL_value hs h1 h2 h3 h4 hT3 hi hk hn kk
  · refine w_tin (off := 334) (tgt := 366) dL_law_32 (by omega) (by omega) (by rw [e]; rfl) (by decide) ?_
    exact kL_step hs h1 h2 h3 h4 hT3 hi hk hn kk
  · refine w_tin (off := 367) (tgt := 399) dL_law_32 (by omega) (by omega) (by rw [e]; rfl) (by decide) ?_
    exact kL_tick hs h1 h2 h3 h4 hT3 hi hk hn kk
  · refine w_tin (off := 410) (tgt := 442) dL_law_32 (by omega) (by omega) (by rw [e]; rfl) (by decide) ?_
    exact kL_series hs h1 h2 h3 h4 hT3 hi hk hn kk
  · refine w_tin (off := 453) (tgt := 485) dL_law_32 (by omega) (by omega) (by rw [e]; rfl) (by decide) ?_
    exact kL_style hs h1 h2 h3 h4 hT3 hi hk hn kk
  · refine w_tin (off := 496) (tgt := 528) dL_law_32 (by omega) (by omega) (by rw [e]; rfl) (by decide) ?_
    exact kL_point hs h1 h2 h3 h4 hT3 hi hk hn kk
  · refine w_tin (off := 549) (tgt := 581) dL_law_32 (by omega) (by omega) (by rw [e]; rfl) (by decide) ?_
    exact kL_gap hs h1 h2 h3 h4 hT3 hi hk hn kk
  · refine w_tin (off := 572) (tgt := 604) dL_law_32 (by omega) (by omega) (by rw [e]; rfl) (by decide) ?_
    exact kL_drop hs h1 h2 h3 h4 hT3 hi hk hn kk
  · refine w_tin (off := 595) (tgt := 627) dL_law_32 (by omega) (by omega) (by rw [e]; rfl) (by decide) ?_
    exact kL_about hs h1 h2 h3 h4 hT3 hi hk hn kk
  · refine w_tin (off := 638) (tgt := 670) dL_law_32 (by omega) (by omega) (by rw [e]; rfl) (by decide) ?_
    exact kL_count hs h1 h2 h3 h4 hT3 hi hk hn kk
  · refine w_tin (off := 671) (tgt := 703) dL_law_32 (by omega) (by omega) (by rw [e]; rfl) (by decide) ?_
    exact kL_five hs h1 h2 h3 h4 hT3 hi hk hn kk
  · refine w_tin (off := 704) (tgt := 736) dL_law_32 (by omega) (by omega) (by rw [e]; rfl) (by decide) ?_
    exact kL_at hs h1 h2 h3 h4 hT3 hi hk hn kk
  · refine w_tin (off := 737) (tgt := 769) dL_law_32 (by omega) (by omega) (by rw [e]; rfl) (by decide) ?_
    exact kL_shown hs h1 h2 h3 h4 hT3 hi hk hn kk
  · refine w_tin (off := 770) (tgt := 802) dL_law_32 (by omega) (by omega) (by rw [e]; rfl) (by decide) ?_
    exact kL_hit hs h1 h2 h3 h4 hT3 hi hk hn kk
  · refine w_tin (off := 813) (tgt := 845) dL_law_32 (by omega) (by omega) (by rw [e]; rfl) (by decide) ?_
    exact kL_inked hs h1 h2 h3 h4 hT3 hi hk hn kk
  · refine w_tin (off := 826) (tgt := 858) dL_law_32 (by omega) (by omega) (by rw [e]; rfl) (by decide) ?_
    exact kL_digest hs h1 h2 h3 h4 hT3 hi hk hn kk
  · refine w_tin (off := 840) (tgt := 872) dL_law_32 (by omega) (by omega) (by rw [e]; rfl) (by decide) ?_
    exact kL_label hs h1 h2 h3 h4 hT3 hi hk hn kk
  · refine w_tin (off := 883) (tgt := 915) dL_law_32 (by omega) (by omega) (by rw [e]; rfl) (by decide) ?_
    exact kL_labelled hs h1 h2 h3 h4 hT3 hi hk hn kk
  · refine w_tin (off := 916) (tgt := 948) dL_law_32 (by omega) (by omega) (by rw [e]; rfl) (by decide) ?_
    exact kL_legend hs h1 h2 h3 h4 hT3 hi hk hn kk
  · refine w_tin (off := 949) (tgt := 981) dL_law_32 (by omega) (by omega) (by rw [e]; rfl) (by decide) ?_
    exact kL_told hs h1 h2 h3 h4 hT3 hi hk hn kk
theorem kL_loop (hs : ∀ s : State, P s → xK G s → va_T .int b sl (fun j => .int (xs j)) (fun q => xB G ≤ q) s (xH0 G)) (hT3 : xT3 G < xB G) (hsl : sl ≤ 2560) (hQ : ∀ h', Q (some (.int 1)) h') : ∀ (m t k n : Nat) (h : xH), sl ≤ 5 * t + 5 * m + 4 → zInv G sc sm h → k + 9 * m ≤ 600000 → n + 1400 * m ≤ 7302250 → t ≤ 600 → xW P G l (mL9 nm) 11 600000 7302250 k n 18 [.ref b, .ref sc, .ref sm, .int (nI (5 * t))] [] h Q := by
  intro m
  induction m with
  | zero =>
    intro t k n h hm hi hk hn ht
    refine w_iload_n dL_law_18 rfl ?_
    refine w_aload_n dL_law_19 rfl ?_
    refine w_tlen dL_law_20 hs rfl ?_
    refine w_iconst (v := 5) dL_law_21 (by decide) ?_
    refine w_isub dL_law_22 ?_
    have e1 : (Int32.ofNat sl - 5).toInt = (sl : Int) - 5 := by
      have : (Int32.ofNat sl).toInt = sl := nI_toInt (by omega)
      rw [fb_subI] <;> rw [this, show (5 : Int32).toInt = 5 from rfl] <;> omega
    refine w_icmp_gt (tgt := 1010) dL_law_23 (by decide) (fun _ => ?_) (fun z => absurd ?_ z)
    · refine w_iconst (v := 1) dL_law_1010 (by decide) ?_
      exact w_zret dL_law_1011 rfl (by decide) (hQ h) (by omega) (by omega)
    · rw [fa_lt, e1, nI_toInt (by omega)]; omega
  | succ m ih =>
    intro t k n h hm hi hk hn ht
    refine w_iload_n dL_law_18 rfl ?_
    refine w_aload_n dL_law_19 rfl ?_
    refine w_tlen dL_law_20 hs rfl ?_
    refine w_iconst (v := 5) dL_law_21 (by decide) ?_
    refine w_isub dL_law_22 ?_
    have e1 : (Int32.ofNat sl - 5).toInt = (sl : Int) - 5 := by
      have : (Int32.ofNat sl).toInt = sl := nI_toInt (by omega)
      rw [fb_subI] <;> rw [this, show (5 : Int32).toInt = 5 from rfl] <;> omega
    refine w_icmp_gt (tgt := 1010) dL_law_23 (by decide) (fun _ => ?_) (fun z => ?_)
    · refine w_iconst (v := 1) dL_law_1010 (by decide) ?_
      exact w_zret dL_law_1011 rfl (by decide) (hQ h) (by omega) (by omega)
    · rw [fa_lt, e1, nI_toInt (by omega)] at z
      have vp : ∀ a : Nat, a < 5 → vp_in (nI (5 * t) + nI a) sl := fun a ha => by
        rw [nI_add, vp_in_iff, nI_toInt (by omega)]; omega
      rw [Nat.mul_succ] at hk hn
      have g1 : k + 9 ≤ 600000 := by omega
      have g2 : n + 1400 ≤ 7302250 := Nat.le_trans (Nat.add_le_add_left (Nat.le_add_left _ _) n) hn
      have g3 : n + 1400 + 1400 * m ≤ 7302250 := by rw [Nat.add_assoc, Nat.add_comm 1400]; exact hn
      have g0 : vp_in (nI (5 * t)) sl := z_vp rfl (by omega) (by omega)
      refine kL_turn hs g0 (vp 1 (by omega)) (vp 2 (by omega)) (vp 3 (by omega)) (vp 4 (by omega)) hT3 hi g1 g2 (fun h8 hi8 => ?_)
      refine w_iinc (v := 5) dL_law_1004 rfl (by decide) (Nat.le_of_ble_eq_true rfl) rfl ?_
      refine w_goto (tgt := 18) dL_law_1007 (by decide) ?_
      have e5 : nI (5 * t) + 5 = nI (5 * (t + 1)) := by rw [show (5 : Int32) = nI 5 from rfl, nI_add]; rfl
      refine w_loc (L' := [.ref b, .ref sc, .ref sm, .int (nI (5 * (t + 1)))]) ?_ (ih (t + 1) (k + 9) (n + 1400) h8 (by omega) hi8 (by omega) g3 (by omega))
      show [Value.ref b, .ref sc, .ref sm, .int (nI (5 * t) + 5)] = _
      rw [e5]
end ZL3
