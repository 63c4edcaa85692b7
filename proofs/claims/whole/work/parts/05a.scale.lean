theorem xri {Q : Option Value → xH → Prop} {h : xH} {v w : Int32} (e : v = w) (hQ : Q (some (.int w)) h) : Q (some (.int v)) h := e ▸ hQ
theorem xrl {Q : Option Value → xH → Prop} {h : xH} {v w : Int64} (e : v = w) (hQ : Q (some (.long w)) h) : Q (some (.long v)) h := e ▸ hQ
theorem xrh {Q : Option Value → xH → Prop} {r : Option Value} {h h' : xH} (e : h = h') (hQ : Q r h') : Q r h := e ▸ hQ
theorem x_heap {G : xG} {l : Launch} {M : xM} {d mc ms k n pc : Nat} {L st : List Value} {h h' : xH} {Q : Option Value → xH → Prop} (e : h = h') (kk : xV G l M d mc ms k n pc L st h' Q) : xV G l M d mc ms k n pc L st h Q := e ▸ kk
theorem x_loc {G : xG} {l : Launch} {M : xM} {d mc ms k n pc : Nat} {L L' st : List Value} {h : xH} {Q : Option Value → xH → Prop} (e : L = L') (kk : xV G l M d mc ms k n pc L' st h Q) : xV G l M d mc ms k n pc L st h Q := e ▸ kk
theorem x_ls {G : xG} {l : Launch} {M : xM} {d mc ms k n pc : Nat} {L L' st st' : List Value} {h : xH} {Q : Option Value → xH → Prop} (e : L = L') (e2 : st = st') (kk : xV G l M d mc ms k n pc L' st' h Q) : xV G l M d mc ms k n pc L st h Q := e ▸ e2 ▸ kk
/-- the places of L' that say something say it of L too -/
def xsub : List Value → List Value → Prop
  | [], _ => True
  | v :: vs, [] => False
  | v :: vs, w :: ws => (v = xU ∨ w = v) ∧ xsub vs ws
theorem xsub_at : ∀ {L' L : List Value}, xsub L' L → ∀ (i : Nat) (v : Value), L'[i]? = some v → v ≠ xU → L[i]? = some v := by
  intro L'
  induction L' with
  | nil => intro L _ i v h; simp at h
  | cons a as ih =>
    intro L hs i v h hu
    cases L with
    | nil => exact absurd hs id
    | cons b bs =>
      cases i with
      | zero =>
        have e : a = v := by simpa using h
        rcases hs.1 with h1 | h1
        · exact absurd (e.symm.trans h1) hu
        · simp [h1, e]
      | succ i => simpa using ih hs.2 i v (by simpa using h) hu
theorem xV.sub {G : xG} {l : Launch} {M : xM} {d mc ms k n pc : Nat} {L L' st : List Value} {h : xH} {Q : Option Value → xH → Prop} (hs : xsub L' L) (hv : xV G l M d mc ms k n pc L' st h Q) : xV G l M d mc ms k n pc L st h Q := xV.less (xsub_at hs) hv
theorem x_tcase {G : xG} {l : Launch} {M : xM} {d mc ms k n pc : Nat} {L st : List Value} {h : xH} {Q : Option Value → xH → Prop} {df lo hi : Int} {offs : Array Int} {len : Nat} {x v : Int32} {off : Int} {tgt : Nat} (hx : x = v) (hd : decode M.2.1 pc = .ok (.tableswitch df lo hi offs, len)) (h1 : ¬ v.toInt < lo) (h2 : ¬ hi < v.toInt) (ho : offs[(v.toInt - lo).toNat]? = some off) (ht : (pc : Int) + off = (tgt : Int)) (kk : xV G l M d mc ms k n tgt L st h Q) : xV G l M d mc ms k n pc L (.int x :: st) h Q := by
  subst hx
  exact x_tin hd h1 h2 ho ht kk
theorem x_lcase {G : xG} {l : Launch} {M : xM} {d mc ms k n pc : Nat} {L st : List Value} {h : xH} {Q : Option Value → xH → Prop} {df : Int} {ps : Array (Int × Int)} {len : Nat} {x v : Int32} {off : Int} {tgt : Nat} (hx : x = v) (hd : decode M.2.1 pc = .ok (.lookupswitch df ps, len)) (hp : (ps.toList.zip (ps.toList.drop 1)).all (fun (a, next) => a.1 < next.1) = true) (ho : Op.lookupswitch.offset ps.toList df v.toInt = off) (ht : (pc : Int) + off = (tgt : Int)) (kk : xV G l M d mc ms k n tgt L st h Q) : xV G l M d mc ms k n pc L (.int x :: st) h Q := by
  subst hx
  exact x_look hd hp ho ht kk
theorem xclamp_lt (b : Int32) : b.toNatClampNeg < 2 ^ 31 := by
  have h := b.toInt_lt
  unfold Int32.toNatClampNeg
  omega
theorem xlt_b {b : Int32} {j : Nat} (h : j < b.toNatClampNeg) : ¬ b ≤ nI j := by
  intro q
  have hb := b.toInt_lt
  rw [Int32.le_iff_toInt_le] at q
  unfold Int32.toNatClampNeg at h
  rw [nI_toInt (by omega)] at q
  omega
theorem xge_b {b : Int32} {j : Nat} (h : b.toNatClampNeg ≤ j) (hj : j < 2 ^ 31) : b ≤ nI j := by
  rw [Int32.le_iff_toInt_le, nI_toInt hj]
  unfold Int32.toNatClampNeg at h
  omega
theorem nbz {v : Int32} (h : v = 0 ∨ v = 1) : narrow .boolean (.int v) = .int v := by rcases h with rfl | rfl <;> rfl
theorem xdv {s : Int32} (h : ¬ s ≤ 0) : ¬ 2 * s = 0 := by
  intro e
  have h1 : ¬ s.toInt ≤ 0 := fun q => h (Int32.le_iff_toInt_le.mpr (by simpa using q))
  have h2 : s.toInt < 2147483648 := s.toInt_lt
  have e2 : (2 * s.toInt).bmod 4294967296 = 0 := by
    have e3 := congrArg Int32.toInt e
    rw [Int32.toInt_mul] at e3
    exact e3
  rw [Int.bmod_def] at e2
  omega
/-- a scale: KIND, LOW, HIGH, FROM, TO, how many dots -/
abbrev xS : Type := Int32 × Int32 × Int32 × Int32 × Int32 × Int32
abbrev xSc (S : xS) : va_E := xOb 3 [.int S.1, .int S.2.1, .int S.2.2.1, .int S.2.2.2.1, .int S.2.2.2.2.1, .int S.2.2.2.2.2]
def FX5_within (v a b : Int32) : Int32 := (if v < a then (0 : Int32) else (if b < v then (0 : Int32) else (1 : Int32)))
theorem bFX5_within {v a b : Int32} : FX5_within v a b = 0 ∨ FX5_within v a b = 1 := by
  unfold FX5_within
  repeat' (first | with_reducible exact Or.inl rfl | with_reducible exact Or.inr rfl | split)
set_option maxHeartbeats 4000000 in
set_option maxRecDepth 100000 in
theorem kX5_within {G : xG} {l : Launch} {d : Nat} {h : xH} {Q : Option Value → xH → Prop} {v a b : Int32}   (hQ : Q (some (.int (FX5_within v a b))) h) : xV G l mX5_within d 0 0 0 0 0 [.int v, .int a, .int b] [] h Q := by
  refine x_iload_n dX5_within_0 rfl ?_
  refine x_iload_n dX5_within_1 rfl ?_
  have J15 : xV G l mX5_within d 0 0 0 0 15 [.int v, .int a, .int b] [.int (if v < a then (0 : Int32) else (if b < v then (0 : Int32) else (1 : Int32)))] h Q := by
    exact x_zret dX5_within_15 rfl (nbz (by repeat' (first | with_reducible exact Or.inl rfl | with_reducible exact Or.inr rfl | split))) (xri (by unfold FX5_within; rfl) hQ)
  refine x_icmp_lt (tgt := 14) dX5_within_2 (by decide) (fun hc_2 => ?_) (fun hc_2 => ?_)
  · refine x_iconst (v := 0) dX5_within_14 (by decide) ?_
    exact x_ls rfl (by first | rfl | (rw [if_pos hc_2] <;> rfl) | (simp only [if_pos hc_2]; rfl) | (simp only [if_pos hc_2])) J15
  · refine x_iload_n dX5_within_5 rfl ?_
    refine x_iload_n dX5_within_6 rfl ?_
    refine x_icmp_gt (tgt := 14) dX5_within_7 (by decide) (fun hc_7 => ?_) (fun hc_7 => ?_)
    · refine x_iconst (v := 0) dX5_within_14 (by decide) ?_
      exact x_ls rfl (by first | rfl | (rw [if_neg hc_2, if_pos hc_7] <;> rfl) | (simp only [if_neg hc_2, if_pos hc_7]; rfl) | (simp only [if_neg hc_2, if_pos hc_7])) J15
    · refine x_iconst (v := 1) dX5_within_10 (by decide) ?_
      refine x_goto (tgt := 15) dX5_within_11 (by decide) ?_
      exact x_ls rfl (by first | rfl | (rw [if_neg hc_2, if_neg hc_7] <;> rfl) | (simp only [if_neg hc_2, if_neg hc_7]; rfl) | (simp only [if_neg hc_2, if_neg hc_7])) J15
def FJ9_floorDiv_7cf53 (a b : Int32) : Int32 := (if 0 ≤ (a ^^^ b) then (a / b) else (if ((a / b) * b) = a then (a / b) else ((a / b) - (1 : Int32))))
set_option maxHeartbeats 4000000 in
set_option maxRecDepth 100000 in
theorem kJ9_floorDiv_7cf53 {G : xG} {l : Launch} {d : Nat} {h : xH} {Q : Option Value → xH → Prop} {a b : Int32} (hb : ¬ b = 0)  (hQ : Q (some (.int (FJ9_floorDiv_7cf53 a b))) h) : xV G l mJ9_floorDiv_7cf53 d 0 0 0 0 0 [.int a, .int b, xU] [] h Q := by
  refine x_iload_n dJ9_floorDiv_7cf53_0 rfl ?_
  refine x_iload_n dJ9_floorDiv_7cf53_1 rfl ?_
  refine x_idiv dJ9_floorDiv_7cf53_2 hb ?_
  refine x_istore_n dJ9_floorDiv_7cf53_3 (by decide) rfl ?_
  refine x_iload_n dJ9_floorDiv_7cf53_4 rfl ?_
  refine x_iload_n dJ9_floorDiv_7cf53_5 rfl ?_
  refine x_ixor dJ9_floorDiv_7cf53_6 ?_
  refine x_if_ge (tgt := 21) dJ9_floorDiv_7cf53_7 (by decide) (fun hc_7 => ?_) (fun hc_7 => ?_)
  · refine x_iload_n dJ9_floorDiv_7cf53_21 rfl ?_
    exact x_iret dJ9_floorDiv_7cf53_22 rfl (xri (by unfold FJ9_floorDiv_7cf53; rw [if_pos hc_7]) hQ)
  · refine x_iload_n dJ9_floorDiv_7cf53_10 rfl ?_
    refine x_iload_n dJ9_floorDiv_7cf53_11 rfl ?_
    refine x_imul dJ9_floorDiv_7cf53_12 ?_
    refine x_iload_n dJ9_floorDiv_7cf53_13 rfl ?_
    refine x_icmp_eq (tgt := 21) dJ9_floorDiv_7cf53_14 (by decide) (fun hc_14 => ?_) (fun hc_14 => ?_)
    · refine x_iload_n dJ9_floorDiv_7cf53_21 rfl ?_
      exact x_iret dJ9_floorDiv_7cf53_22 rfl (xri (by unfold FJ9_floorDiv_7cf53; rw [if_neg hc_7, if_pos hc_14]) hQ)
    · refine x_iload_n dJ9_floorDiv_7cf53_17 rfl ?_
      refine x_iconst (v := 1) dJ9_floorDiv_7cf53_18 (by decide) ?_
      refine x_isub dJ9_floorDiv_7cf53_19 ?_
      exact x_iret dJ9_floorDiv_7cf53_20 rfl (xri (by unfold FJ9_floorDiv_7cf53; rw [if_neg hc_7, if_neg hc_14]) hQ)
def FX2_leftOut (S : xS) : Int32 := (if S.1 = (2 : Int32) then (S.2.2.2.2.1 - S.2.2.2.1) else (0 : Int32))
set_option maxHeartbeats 4000000 in
set_option maxRecDepth 100000 in
theorem kX2_leftOut {G : xG} {l : Launch} {d : Nat} {h : xH} {Q : Option Value → xH → Prop} {o : Nat} {S : xS} (ho : h o = some (xSc S))  (hQ : Q (some (.int (FX2_leftOut S))) h) : xV G l mX2_leftOut d 0 0 0 0 0 [.ref o] [] h Q := by
  refine x_aload_n dX2_leftOut_0 rfl ?_
  refine x_get 0 dX2_leftOut_1 ho rfl (by decide) (by decide +kernel) rfl ?_
  refine x_iconst (v := 2) dX2_leftOut_4 (by decide) ?_
  have J21 : xV G l mX2_leftOut d 0 0 0 0 21 [.ref o] [.int (if S.1 = (2 : Int32) then (S.2.2.2.2.1 - S.2.2.2.1) else (0 : Int32))] h Q := by
    exact x_iret dX2_leftOut_21 rfl (xri (by unfold FX2_leftOut; rfl) hQ)
  refine x_icmp_ne (tgt := 20) dX2_leftOut_5 (by decide) (fun hc_5 => ?_) (fun hc_5 => ?_)
  · refine x_iconst (v := 0) dX2_leftOut_20 (by decide) ?_
    exact x_ls rfl (by first | rfl | (rw [if_neg hc_5] <;> rfl) | (simp only [if_neg hc_5]; rfl) | (simp only [if_neg hc_5])) J21
  · refine x_aload_n dX2_leftOut_8 rfl ?_
    refine x_get 4 dX2_leftOut_9 ho rfl (by decide) (by decide +kernel) rfl ?_
    refine x_aload_n dX2_leftOut_12 rfl ?_
    refine x_get 3 dX2_leftOut_13 ho rfl (by decide) (by decide +kernel) rfl ?_
    refine x_isub dX2_leftOut_16 ?_
    refine x_goto (tgt := 21) dX2_leftOut_17 (by decide) ?_
    exact x_ls rfl (by first | rfl | (rw [if_pos hc_5] <;> rfl) | (simp only [if_pos hc_5]; rfl) | (simp only [if_pos hc_5])) J21
def FX2_holds (S : xS) (v : Int32) : Int32 := (if v < S.2.1 then (0 : Int32) else (if S.2.2.1 < v then (0 : Int32) else (if S.1 = (2 : Int32) then (if v ≤ S.2.2.2.1 then (1 : Int32) else (if v < S.2.2.2.2.1 then (0 : Int32) else (1 : Int32))) else (1 : Int32))))
theorem bFX2_holds {S : xS} {v : Int32} : FX2_holds S v = 0 ∨ FX2_holds S v = 1 := by
  unfold FX2_holds
  repeat' (first | with_reducible exact Or.inl rfl | with_reducible exact Or.inr rfl | with_reducible exact bFX5_within | split)
set_option maxHeartbeats 4000000 in
set_option maxRecDepth 100000 in
theorem kX2_holds {G : xG} {l : Launch} {d : Nat} {h : xH} {Q : Option Value → xH → Prop} {o : Nat} {S : xS} {v : Int32} (ho : h o = some (xSc S))  (hQ : Q (some (.int (FX2_holds S v))) h) : xV G l mX2_holds d 0 0 0 0 0 [.ref o, .int v] [] h Q := by
  refine x_iload_n dX2_holds_0 rfl ?_
  refine x_aload_n dX2_holds_1 rfl ?_
  refine x_get 1 dX2_holds_2 ho rfl (by decide) (by decide +kernel) rfl ?_
  have J45 : xV G l mX2_holds d 0 0 0 0 45 [.ref o, .int v] [.int (if v < S.2.1 then (0 : Int32) else (if S.2.2.1 < v then (0 : Int32) else (if S.1 = (2 : Int32) then (if v ≤ S.2.2.2.1 then (1 : Int32) else (if v < S.2.2.2.2.1 then (0 : Int32) else (1 : Int32))) else (1 : Int32))))] h Q := by
    exact x_zret dX2_holds_45 rfl (nbz (by repeat' (first | with_reducible exact Or.inl rfl | with_reducible exact Or.inr rfl | with_reducible exact bFX5_within | split))) (xri (by unfold FX2_holds; rfl) hQ)
  refine x_icmp_lt (tgt := 44) dX2_holds_5 (by decide) (fun hc_5 => ?_) (fun hc_5 => ?_)
  · refine x_iconst (v := 0) dX2_holds_44 (by decide) ?_
    exact x_ls rfl (by first | rfl | (rw [if_pos hc_5] <;> rfl) | (simp only [if_pos hc_5]; rfl) | (simp only [if_pos hc_5])) J45
  · refine x_iload_n dX2_holds_8 rfl ?_
    refine x_aload_n dX2_holds_9 rfl ?_
    refine x_get 2 dX2_holds_10 ho rfl (by decide) (by decide +kernel) rfl ?_
    refine x_icmp_gt (tgt := 44) dX2_holds_13 (by decide) (fun hc_13 => ?_) (fun hc_13 => ?_)
    · refine x_iconst (v := 0) dX2_holds_44 (by decide) ?_
      exact x_ls rfl (by first | rfl | (rw [if_neg hc_5, if_pos hc_13] <;> rfl) | (simp only [if_neg hc_5, if_pos hc_13]; rfl) | (simp only [if_neg hc_5, if_pos hc_13])) J45
    · refine x_aload_n dX2_holds_16 rfl ?_
      refine x_get 0 dX2_holds_17 ho rfl (by decide) (by decide +kernel) rfl ?_
      refine x_iconst (v := 2) dX2_holds_20 (by decide) ?_
      refine x_icmp_ne (tgt := 40) dX2_holds_21 (by decide) (fun hc_21 => ?_) (fun hc_21 => ?_)
      · refine x_iconst (v := 1) dX2_holds_40 (by decide) ?_
        refine x_goto (tgt := 45) dX2_holds_41 (by decide) ?_
        exact x_ls rfl (by first | rfl | (rw [if_neg hc_5, if_neg hc_13, if_neg hc_21] <;> rfl) | (simp only [if_neg hc_5, if_neg hc_13, if_neg hc_21]; rfl) | (simp only [if_neg hc_5, if_neg hc_13, if_neg hc_21])) J45
      · refine x_iload_n dX2_holds_24 rfl ?_
        refine x_aload_n dX2_holds_25 rfl ?_
        refine x_get 3 dX2_holds_26 ho rfl (by decide) (by decide +kernel) rfl ?_
        refine x_icmp_le (tgt := 40) dX2_holds_29 (by decide) (fun hc_29 => ?_) (fun hc_29 => ?_)
        · refine x_iconst (v := 1) dX2_holds_40 (by decide) ?_
          refine x_goto (tgt := 45) dX2_holds_41 (by decide) ?_
          exact x_ls rfl (by first | rfl | (rw [if_neg hc_5, if_neg hc_13, if_pos hc_21, if_pos hc_29] <;> rfl) | (simp only [if_neg hc_5, if_neg hc_13, if_pos hc_21, if_pos hc_29]; rfl) | (simp only [if_neg hc_5, if_neg hc_13, if_pos hc_21, if_pos hc_29])) J45
        · refine x_iload_n dX2_holds_32 rfl ?_
          refine x_aload_n dX2_holds_33 rfl ?_
          refine x_get 4 dX2_holds_34 ho rfl (by decide) (by decide +kernel) rfl ?_
          refine x_icmp_lt (tgt := 44) dX2_holds_37 (by decide) (fun hc_37 => ?_) (fun hc_37 => ?_)
          · refine x_iconst (v := 0) dX2_holds_44 (by decide) ?_
            exact x_ls rfl (by first | rfl | (rw [if_neg hc_5, if_neg hc_13, if_pos hc_21, if_neg hc_29, if_pos hc_37] <;> rfl) | (simp only [if_neg hc_5, if_neg hc_13, if_pos hc_21, if_neg hc_29, if_pos hc_37]; rfl) | (simp only [if_neg hc_5, if_neg hc_13, if_pos hc_21, if_neg hc_29, if_pos hc_37])) J45
          · refine x_iconst (v := 1) dX2_holds_40 (by decide) ?_
            refine x_goto (tgt := 45) dX2_holds_41 (by decide) ?_
            exact x_ls rfl (by first | rfl | (rw [if_neg hc_5, if_neg hc_13, if_pos hc_21, if_neg hc_29, if_neg hc_37] <;> rfl) | (simp only [if_neg hc_5, if_neg hc_13, if_pos hc_21, if_neg hc_29, if_neg hc_37]; rfl) | (simp only [if_neg hc_5, if_neg hc_13, if_pos hc_21, if_neg hc_29, if_neg hc_37])) J45
def FX2_placeOf (S : xS) (v : Int32) : Int32 := (if ((S.2.2.1 - S.2.1) - (FX2_leftOut S)) ≤ 0 then (-9 : Int32) else (if (FX2_holds S v) = 0 then (-9 : Int32) else (if S.1 = (1 : Int32) then ((S.2.2.2.2.2 - (1 : Int32)) - (((((2 : Int32) * (if S.1 = (2 : Int32) then (if v < S.2.2.2.2.1 then (v - S.2.1) else ((v - S.2.1) - (FX2_leftOut S))) else (v - S.2.1))) * (S.2.2.2.2.2 - (1 : Int32))) + ((S.2.2.1 - S.2.1) - (FX2_leftOut S))) / ((2 : Int32) * ((S.2.2.1 - S.2.1) - (FX2_leftOut S))))) else (((((2 : Int32) * (if S.1 = (2 : Int32) then (if v < S.2.2.2.2.1 then (v - S.2.1) else ((v - S.2.1) - (FX2_leftOut S))) else (v - S.2.1))) * (S.2.2.2.2.2 - (1 : Int32))) + ((S.2.2.1 - S.2.1) - (FX2_leftOut S))) / ((2 : Int32) * ((S.2.2.1 - S.2.1) - (FX2_leftOut S)))))))
set_option maxHeartbeats 4000000 in
set_option maxRecDepth 100000 in
theorem kX2_placeOf {G : xG} {l : Launch} {d : Nat} {h : xH} {Q : Option Value → xH → Prop} {o : Nat} {S : xS} {v : Int32} (ho : h o = some (xSc S))  (hQ : Q (some (.int (FX2_placeOf S v))) h) : xV G l mX2_placeOf (d + 1) 0 0 0 0 0 [.ref o, .int v, xU, xU, xU] [] h Q := by
  refine x_aload_n dX2_placeOf_0 rfl ?_
  refine x_get 2 dX2_placeOf_1 ho rfl (by decide) (by decide +kernel) rfl ?_
  refine x_aload_n dX2_placeOf_4 rfl ?_
  refine x_get 1 dX2_placeOf_5 ho rfl (by decide) (by decide +kernel) rfl ?_
  refine x_isub dX2_placeOf_8 ?_
  refine x_aload_n dX2_placeOf_9 rfl ?_
  refine x_callV (M' := mX2_leftOut) (mc' := 0) (ms' := 0) (As := []) dX2_placeOf_10 gX2_placeOf_X2_leftOut okX2_leftOut rfl rfl ho rfl (Nat.le_of_ble_eq_true rfl) (Nat.le_of_ble_eq_true rfl) (Nat.le_refl _) (Nat.le_refl _) (Nat.le_refl _) ?_
  refine kX2_leftOut ho ?_
  show xV _ _ _ _ _ _ _ _ _ _ _ _ _
  refine x_isub dX2_placeOf_13 ?_
  refine x_istore_n dX2_placeOf_14 (by decide) rfl ?_
  refine x_iload_n dX2_placeOf_15 rfl ?_
  refine x_if_le (tgt := 27) dX2_placeOf_16 (by decide) (fun hc_16 => ?_) (fun hc_16 => ?_)
  · refine x_bipush (v := (-9)) dX2_placeOf_27 (by decide) ?_
    exact x_iret dX2_placeOf_29 rfl (xri (by unfold FX2_placeOf; rw [if_pos hc_16]) hQ)
  · refine x_aload_n dX2_placeOf_19 rfl ?_
    refine x_iload_n dX2_placeOf_20 rfl ?_
    refine x_callV (M' := mX2_holds) (mc' := 0) (ms' := 0) (As := [.int v]) dX2_placeOf_21 gX2_placeOf_X2_holds okX2_holds rfl rfl ho rfl (Nat.le_of_ble_eq_true rfl) (Nat.le_of_ble_eq_true rfl) (Nat.le_refl _) (Nat.le_refl _) (Nat.le_refl _) ?_
    refine kX2_holds ho ?_
    show xV _ _ _ _ _ _ _ _ _ _ _ _ _
    refine x_if_ne (tgt := 30) dX2_placeOf_24 (by decide) (fun hc_24 => ?_) (fun hc_24 => ?_)
    · refine x_aload_n dX2_placeOf_30 rfl ?_
      refine x_get 0 dX2_placeOf_31 ho rfl (by decide) (by decide +kernel) rfl ?_
      refine x_iconst (v := 2) dX2_placeOf_34 (by decide) ?_
      have J66 : xV G l mX2_placeOf (d + 1) 0 0 0 0 66 [.ref o, .int v, .int ((S.2.2.1 - S.2.1) - (FX2_leftOut S)), xU, xU] [.int (if S.1 = (2 : Int32) then (if v < S.2.2.2.2.1 then (v - S.2.1) else ((v - S.2.1) - (FX2_leftOut S))) else (v - S.2.1))] h Q := by
        refine x_istore_n dX2_placeOf_66 (by decide) rfl ?_
        refine x_iconst (v := 2) dX2_placeOf_67 (by decide) ?_
        refine x_iload_n dX2_placeOf_68 rfl ?_
        refine x_imul dX2_placeOf_69 ?_
        refine x_aload_n dX2_placeOf_70 rfl ?_
        refine x_get 5 dX2_placeOf_71 ho rfl (by decide) (by decide +kernel) rfl ?_
        refine x_iconst (v := 1) dX2_placeOf_74 (by decide) ?_
        refine x_isub dX2_placeOf_75 ?_
        refine x_imul dX2_placeOf_76 ?_
        refine x_iload_n dX2_placeOf_77 rfl ?_
        refine x_iadd dX2_placeOf_78 ?_
        refine x_iconst (v := 2) dX2_placeOf_79 (by decide) ?_
        refine x_iload_n dX2_placeOf_80 rfl ?_
        refine x_imul dX2_placeOf_81 ?_
        refine x_idiv dX2_placeOf_82 (xdv hc_16) ?_
        refine x_istore dX2_placeOf_83 (by decide) rfl ?_
        refine x_aload_n dX2_placeOf_85 rfl ?_
        refine x_get 0 dX2_placeOf_86 ho rfl (by decide) (by decide +kernel) rfl ?_
        refine x_iconst (v := 1) dX2_placeOf_89 (by decide) ?_
        have J107 : xV G l mX2_placeOf (d + 1) 0 0 0 0 107 [.ref o, .int v, .int ((S.2.2.1 - S.2.1) - (FX2_leftOut S)), .int (if S.1 = (2 : Int32) then (if v < S.2.2.2.2.1 then (v - S.2.1) else ((v - S.2.1) - (FX2_leftOut S))) else (v - S.2.1)), .int (((((2 : Int32) * (if S.1 = (2 : Int32) then (if v < S.2.2.2.2.1 then (v - S.2.1) else ((v - S.2.1) - (FX2_leftOut S))) else (v - S.2.1))) * (S.2.2.2.2.2 - (1 : Int32))) + ((S.2.2.1 - S.2.1) - (FX2_leftOut S))) / ((2 : Int32) * ((S.2.2.1 - S.2.1) - (FX2_leftOut S))))] [.int (if S.1 = (1 : Int32) then ((S.2.2.2.2.2 - (1 : Int32)) - (((((2 : Int32) * (if S.1 = (2 : Int32) then (if v < S.2.2.2.2.1 then (v - S.2.1) else ((v - S.2.1) - (FX2_leftOut S))) else (v - S.2.1))) * (S.2.2.2.2.2 - (1 : Int32))) + ((S.2.2.1 - S.2.1) - (FX2_leftOut S))) / ((2 : Int32) * ((S.2.2.1 - S.2.1) - (FX2_leftOut S))))) else (((((2 : Int32) * (if S.1 = (2 : Int32) then (if v < S.2.2.2.2.1 then (v - S.2.1) else ((v - S.2.1) - (FX2_leftOut S))) else (v - S.2.1))) * (S.2.2.2.2.2 - (1 : Int32))) + ((S.2.2.1 - S.2.1) - (FX2_leftOut S))) / ((2 : Int32) * ((S.2.2.1 - S.2.1) - (FX2_leftOut S)))))] h Q := by
          exact x_iret dX2_placeOf_107 rfl (xri (by unfold FX2_placeOf; rw [if_neg hc_16, if_neg hc_24]) hQ)
        refine x_icmp_ne (tgt := 105) dX2_placeOf_90 (by decide) (fun hc_90 => ?_) (fun hc_90 => ?_)
        · refine x_iload dX2_placeOf_105 rfl ?_
          exact x_ls rfl (by first | rfl | (rw [if_neg hc_90] <;> rfl) | (simp only [if_neg hc_90]; rfl) | (simp only [if_neg hc_90])) J107
        · refine x_aload_n dX2_placeOf_93 rfl ?_
          refine x_get 5 dX2_placeOf_94 ho rfl (by decide) (by decide +kernel) rfl ?_
          refine x_iconst (v := 1) dX2_placeOf_97 (by decide) ?_
          refine x_isub dX2_placeOf_98 ?_
          refine x_iload dX2_placeOf_99 rfl ?_
          refine x_isub dX2_placeOf_101 ?_
          refine x_goto (tgt := 107) dX2_placeOf_102 (by decide) ?_
          exact x_ls rfl (by first | rfl | (rw [if_pos hc_90] <;> rfl) | (simp only [if_pos hc_90]; rfl) | (simp only [if_pos hc_90])) J107
      refine x_icmp_ne (tgt := 60) dX2_placeOf_35 (by decide) (fun hc_35 => ?_) (fun hc_35 => ?_)
      · refine x_iload_n dX2_placeOf_60 rfl ?_
        refine x_aload_n dX2_placeOf_61 rfl ?_
        refine x_get 1 dX2_placeOf_62 ho rfl (by decide) (by decide +kernel) rfl ?_
        refine x_isub dX2_placeOf_65 ?_
        exact x_ls rfl (by first | rfl | (rw [if_neg hc_35] <;> rfl) | (simp only [if_neg hc_35]; rfl) | (simp only [if_neg hc_35])) J66
      · refine x_iload_n dX2_placeOf_38 rfl ?_
        refine x_aload_n dX2_placeOf_39 rfl ?_
        refine x_get 4 dX2_placeOf_40 ho rfl (by decide) (by decide +kernel) rfl ?_
        refine x_icmp_lt (tgt := 60) dX2_placeOf_43 (by decide) (fun hc_43 => ?_) (fun hc_43 => ?_)
        · refine x_iload_n dX2_placeOf_60 rfl ?_
          refine x_aload_n dX2_placeOf_61 rfl ?_
          refine x_get 1 dX2_placeOf_62 ho rfl (by decide) (by decide +kernel) rfl ?_
          refine x_isub dX2_placeOf_65 ?_
          exact x_ls rfl (by first | rfl | (rw [if_pos hc_35, if_pos hc_43] <;> rfl) | (simp only [if_pos hc_35, if_pos hc_43]; rfl) | (simp only [if_pos hc_35, if_pos hc_43])) J66
        · refine x_iload_n dX2_placeOf_46 rfl ?_
          refine x_aload_n dX2_placeOf_47 rfl ?_
          refine x_get 1 dX2_placeOf_48 ho rfl (by decide) (by decide +kernel) rfl ?_
          refine x_isub dX2_placeOf_51 ?_
          refine x_aload_n dX2_placeOf_52 rfl ?_
          refine x_callV (M' := mX2_leftOut) (mc' := 0) (ms' := 0) (As := []) dX2_placeOf_53 gX2_placeOf_X2_leftOut okX2_leftOut rfl rfl ho rfl (Nat.le_of_ble_eq_true rfl) (Nat.le_of_ble_eq_true rfl) (Nat.le_refl _) (Nat.le_refl _) (Nat.le_refl _) ?_
          refine kX2_leftOut ho ?_
          show xV _ _ _ _ _ _ _ _ _ _ _ _ _
          refine x_isub dX2_placeOf_56 ?_
          refine x_goto (tgt := 66) dX2_placeOf_57 (by decide) ?_
          exact x_ls rfl (by first | rfl | (rw [if_pos hc_35, if_neg hc_43] <;> rfl) | (simp only [if_pos hc_35, if_neg hc_43]; rfl) | (simp only [if_pos hc_35, if_neg hc_43])) J66
    · refine x_bipush (v := (-9)) dX2_placeOf_27 (by decide) ?_
      exact x_iret dX2_placeOf_29 rfl (xri (by unfold FX2_placeOf; rw [if_neg hc_16, if_pos hc_24]) hQ)
def FX2_multiples (a b t : Int32) : Int32 := (if 0 < t then ((FJ9_floorDiv_7cf53 b t) - (FJ9_floorDiv_7cf53 (a - (1 : Int32)) t)) else (0 : Int32))
set_option maxHeartbeats 4000000 in
set_option maxRecDepth 100000 in
theorem kX2_multiples {G : xG} {l : Launch} {d : Nat} {h : xH} {Q : Option Value → xH → Prop} {a b t : Int32}   (hQ : Q (some (.int (FX2_multiples a b t))) h) : xV G l mX2_multiples (d + 1) 0 0 0 0 0 [.int a, .int b, .int t] [] h Q := by
  refine x_iload_n dX2_multiples_0 rfl ?_
  have J21 : xV G l mX2_multiples (d + 1) 0 0 0 0 21 [.int a, .int b, .int t] [.int (if 0 < t then ((FJ9_floorDiv_7cf53 b t) - (FJ9_floorDiv_7cf53 (a - (1 : Int32)) t)) else (0 : Int32))] h Q := by
    exact x_iret dX2_multiples_21 rfl (xri (by unfold FX2_multiples; rfl) hQ)
  refine x_if_gt (tgt := 8) dX2_multiples_1 (by decide) (fun hc_1 => ?_) (fun hc_1 => ?_)
  · refine x_iload_n dX2_multiples_8 rfl ?_
    refine x_iload_n dX2_multiples_9 rfl ?_
    refine x_callS (M' := mJ9_floorDiv_7cf53) (mc' := 0) (ms' := 0) (As := [.int b, .int t]) dX2_multiples_10 gX2_multiples_J9_floorDiv_7cf53 okJ9_floorDiv_7cf53 rfl rfl (Nat.le_of_ble_eq_true rfl) (Nat.le_of_ble_eq_true rfl) (Nat.le_refl _) (Nat.le_refl _) (Nat.le_refl _) ?_
    refine kJ9_floorDiv_7cf53 (fun z => absurd (z ▸ hc_1) (by decide)) ?_
    show xV _ _ _ _ _ _ _ _ _ _ _ _ _
    refine x_iload_n dX2_multiples_13 rfl ?_
    refine x_iconst (v := 1) dX2_multiples_14 (by decide) ?_
    refine x_isub dX2_multiples_15 ?_
    refine x_iload_n dX2_multiples_16 rfl ?_
    refine x_callS (M' := mJ9_floorDiv_7cf53) (mc' := 0) (ms' := 0) (As := [.int (a - (1 : Int32)), .int t]) dX2_multiples_17 gX2_multiples_J9_floorDiv_7cf53 okJ9_floorDiv_7cf53 rfl rfl (Nat.le_of_ble_eq_true rfl) (Nat.le_of_ble_eq_true rfl) (Nat.le_refl _) (Nat.le_refl _) (Nat.le_refl _) ?_
    refine kJ9_floorDiv_7cf53 (fun z => absurd (z ▸ hc_1) (by decide)) ?_
    show xV _ _ _ _ _ _ _ _ _ _ _ _ _
    refine x_isub dX2_multiples_20 ?_
    exact x_ls rfl (by first | rfl | (rw [if_pos hc_1] <;> rfl) | (simp only [if_pos hc_1]; rfl) | (simp only [if_pos hc_1])) J21
  · refine x_iconst (v := 0) dX2_multiples_4 (by decide) ?_
    refine x_goto (tgt := 21) dX2_multiples_5 (by decide) ?_
    exact x_ls rfl (by first | rfl | (rw [if_neg hc_1] <;> rfl) | (simp only [if_neg hc_1]; rfl) | (simp only [if_neg hc_1])) J21
def FX2_firstMultiple (a t : Int32) : Int32 := (if 0 < t then (((FJ9_floorDiv_7cf53 (a - (1 : Int32)) t) + (1 : Int32)) * t) else a)
set_option maxHeartbeats 4000000 in
set_option maxRecDepth 100000 in
theorem kX2_firstMultiple {G : xG} {l : Launch} {d : Nat} {h : xH} {Q : Option Value → xH → Prop} {a t : Int32}   (hQ : Q (some (.int (FX2_firstMultiple a t))) h) : xV G l mX2_firstMultiple (d + 1) 0 0 0 0 0 [.int a, .int t] [] h Q := by
  refine x_iload_n dX2_firstMultiple_0 rfl ?_
  have J19 : xV G l mX2_firstMultiple (d + 1) 0 0 0 0 19 [.int a, .int t] [.int (if 0 < t then (((FJ9_floorDiv_7cf53 (a - (1 : Int32)) t) + (1 : Int32)) * t) else a)] h Q := by
    exact x_iret dX2_firstMultiple_19 rfl (xri (by unfold FX2_firstMultiple; rfl) hQ)
  refine x_if_gt (tgt := 8) dX2_firstMultiple_1 (by decide) (fun hc_1 => ?_) (fun hc_1 => ?_)
  · refine x_iload_n dX2_firstMultiple_8 rfl ?_
    refine x_iconst (v := 1) dX2_firstMultiple_9 (by decide) ?_
    refine x_isub dX2_firstMultiple_10 ?_
    refine x_iload_n dX2_firstMultiple_11 rfl ?_
    refine x_callS (M' := mJ9_floorDiv_7cf53) (mc' := 0) (ms' := 0) (As := [.int (a - (1 : Int32)), .int t]) dX2_firstMultiple_12 gX2_firstMultiple_J9_floorDiv_7cf53 okJ9_floorDiv_7cf53 rfl rfl (Nat.le_of_ble_eq_true rfl) (Nat.le_of_ble_eq_true rfl) (Nat.le_refl _) (Nat.le_refl _) (Nat.le_refl _) ?_
    refine kJ9_floorDiv_7cf53 (fun z => absurd (z ▸ hc_1) (by decide)) ?_
    show xV _ _ _ _ _ _ _ _ _ _ _ _ _
    refine x_iconst (v := 1) dX2_firstMultiple_15 (by decide) ?_
    refine x_iadd dX2_firstMultiple_16 ?_
    refine x_iload_n dX2_firstMultiple_17 rfl ?_
    refine x_imul dX2_firstMultiple_18 ?_
    exact x_ls rfl (by first | rfl | (rw [if_pos hc_1] <;> rfl) | (simp only [if_pos hc_1]; rfl) | (simp only [if_pos hc_1])) J19
  · refine x_iload_n dX2_firstMultiple_4 rfl ?_
    refine x_goto (tgt := 19) dX2_firstMultiple_5 (by decide) ?_
    exact x_ls rfl (by first | rfl | (rw [if_neg hc_1] <;> rfl) | (simp only [if_neg hc_1]; rfl) | (simp only [if_neg hc_1])) J19
def FX2_ticksBelowGap (S : xS) (t : Int32) : Int32 := (FX2_multiples S.2.1 (if S.1 = (2 : Int32) then S.2.2.2.1 else S.2.2.1) t)
set_option maxHeartbeats 4000000 in
set_option maxRecDepth 100000 in
theorem kX2_ticksBelowGap {G : xG} {l : Launch} {d : Nat} {h : xH} {Q : Option Value → xH → Prop} {o : Nat} {S : xS} {t : Int32} (ho : h o = some (xSc S))  (hQ : Q (some (.int (FX2_ticksBelowGap S t))) h) : xV G l mX2_ticksBelowGap (d + 2) 0 0 0 0 0 [.ref o, .int t] [] h Q := by
  refine x_aload_n dX2_ticksBelowGap_0 rfl ?_
  refine x_get 1 dX2_ticksBelowGap_1 ho rfl (by decide) (by decide +kernel) rfl ?_
  refine x_aload_n dX2_ticksBelowGap_4 rfl ?_
  refine x_get 0 dX2_ticksBelowGap_5 ho rfl (by decide) (by decide +kernel) rfl ?_
  refine x_iconst (v := 2) dX2_ticksBelowGap_8 (by decide) ?_
  have J23 : xV G l mX2_ticksBelowGap (d + 2) 0 0 0 0 23 [.ref o, .int t] [.int (if S.1 = (2 : Int32) then S.2.2.2.1 else S.2.2.1), .int S.2.1] h Q := by
    refine x_iload_n dX2_ticksBelowGap_23 rfl ?_
    refine x_callS (M' := mX2_multiples) (mc' := 0) (ms' := 0) (As := [.int S.2.1, .int (if S.1 = (2 : Int32) then S.2.2.2.1 else S.2.2.1), .int t]) dX2_ticksBelowGap_24 gX2_ticksBelowGap_X2_multiples okX2_multiples rfl rfl (Nat.le_of_ble_eq_true rfl) (Nat.le_of_ble_eq_true rfl) (Nat.le_refl _) (Nat.le_refl _) (Nat.le_refl _) ?_
    refine kX2_multiples  ?_
    show xV _ _ _ _ _ _ _ _ _ _ _ _ _
    exact x_iret dX2_ticksBelowGap_27 rfl (xri (by unfold FX2_ticksBelowGap; rfl) hQ)
  refine x_icmp_ne (tgt := 19) dX2_ticksBelowGap_9 (by decide) (fun hc_9 => ?_) (fun hc_9 => ?_)
  · refine x_aload_n dX2_ticksBelowGap_19 rfl ?_
    refine x_get 2 dX2_ticksBelowGap_20 ho rfl (by decide) (by decide +kernel) rfl ?_
    exact x_ls rfl (by first | rfl | (rw [if_neg hc_9] <;> rfl) | (simp only [if_neg hc_9]; rfl) | (simp only [if_neg hc_9])) J23
  · refine x_aload_n dX2_ticksBelowGap_12 rfl ?_
    refine x_get 3 dX2_ticksBelowGap_13 ho rfl (by decide) (by decide +kernel) rfl ?_
    refine x_goto (tgt := 23) dX2_ticksBelowGap_16 (by decide) ?_
    exact x_ls rfl (by first | rfl | (rw [if_pos hc_9] <;> rfl) | (simp only [if_pos hc_9]; rfl) | (simp only [if_pos hc_9])) J23
def FX2_ticksAboveGap (S : xS) (t : Int32) : Int32 := (if S.1 = (2 : Int32) then (FX2_multiples S.2.2.2.2.1 S.2.2.1 t) else (0 : Int32))
set_option maxHeartbeats 4000000 in
set_option maxRecDepth 100000 in
theorem kX2_ticksAboveGap {G : xG} {l : Launch} {d : Nat} {h : xH} {Q : Option Value → xH → Prop} {o : Nat} {S : xS} {t : Int32} (ho : h o = some (xSc S))  (hQ : Q (some (.int (FX2_ticksAboveGap S t))) h) : xV G l mX2_ticksAboveGap (d + 2) 0 0 0 0 0 [.ref o, .int t] [] h Q := by
  refine x_aload_n dX2_ticksAboveGap_0 rfl ?_
  refine x_get 0 dX2_ticksAboveGap_1 ho rfl (by decide) (by decide +kernel) rfl ?_
  refine x_iconst (v := 2) dX2_ticksAboveGap_4 (by decide) ?_
  have J24 : xV G l mX2_ticksAboveGap (d + 2) 0 0 0 0 24 [.ref o, .int t] [.int (if S.1 = (2 : Int32) then (FX2_multiples S.2.2.2.2.1 S.2.2.1 t) else (0 : Int32))] h Q := by
    exact x_iret dX2_ticksAboveGap_24 rfl (xri (by unfold FX2_ticksAboveGap; rfl) hQ)
  refine x_icmp_ne (tgt := 23) dX2_ticksAboveGap_5 (by decide) (fun hc_5 => ?_) (fun hc_5 => ?_)
  · refine x_iconst (v := 0) dX2_ticksAboveGap_23 (by decide) ?_
    exact x_ls rfl (by first | rfl | (rw [if_neg hc_5] <;> rfl) | (simp only [if_neg hc_5]; rfl) | (simp only [if_neg hc_5])) J24
  · refine x_aload_n dX2_ticksAboveGap_8 rfl ?_
    refine x_get 4 dX2_ticksAboveGap_9 ho rfl (by decide) (by decide +kernel) rfl ?_
    refine x_aload_n dX2_ticksAboveGap_12 rfl ?_
    refine x_get 2 dX2_ticksAboveGap_13 ho rfl (by decide) (by decide +kernel) rfl ?_
    refine x_iload_n dX2_ticksAboveGap_16 rfl ?_
    refine x_callS (M' := mX2_multiples) (mc' := 0) (ms' := 0) (As := [.int S.2.2.2.2.1, .int S.2.2.1, .int t]) dX2_ticksAboveGap_17 gX2_ticksAboveGap_X2_multiples okX2_multiples rfl rfl (Nat.le_of_ble_eq_true rfl) (Nat.le_of_ble_eq_true rfl) (Nat.le_refl _) (Nat.le_refl _) (Nat.le_refl _) ?_
    refine kX2_multiples  ?_
    show xV _ _ _ _ _ _ _ _ _ _ _ _ _
    refine x_goto (tgt := 24) dX2_ticksAboveGap_20 (by decide) ?_
    exact x_ls rfl (by first | rfl | (rw [if_pos hc_5] <;> rfl) | (simp only [if_pos hc_5]; rfl) | (simp only [if_pos hc_5])) J24
def FX2_aOf (S : xS) (v : Int32) : Int32 := (if (0 : Int32) < (-(FJ9_floorDiv_7cf53 ((-((S.2.2.1 - S.2.1) - (FX2_leftOut S))) * (((2 : Int32) * (if S.1 = (1 : Int32) then ((S.2.2.2.2.2 - (1 : Int32)) - v) else v)) - (1 : Int32))) ((2 : Int32) * (S.2.2.2.2.2 - (1 : Int32))))) then (-(FJ9_floorDiv_7cf53 ((-((S.2.2.1 - S.2.1) - (FX2_leftOut S))) * (((2 : Int32) * (if S.1 = (1 : Int32) then ((S.2.2.2.2.2 - (1 : Int32)) - v) else v)) - (1 : Int32))) ((2 : Int32) * (S.2.2.2.2.2 - (1 : Int32))))) else (0 : Int32))
def FX2_leastValueAt (S : xS) (v : Int32) : Int32 := (if S.2.2.2.2.2 < (2 : Int32) then (-2000000000 : Int32) else (if v < 0 then (-2000000000 : Int32) else (if v < S.2.2.2.2.2 then (if (FX2_placeOf S (if S.1 = (2 : Int32) then (if (S.2.1 + (FX2_aOf S v)) ≤ S.2.2.2.1 then (S.2.1 + (FX2_aOf S v)) else ((S.2.1 + (FX2_aOf S v)) + (FX2_leftOut S))) else (S.2.1 + (FX2_aOf S v)))) = v then (if S.1 = (2 : Int32) then (if (S.2.1 + (FX2_aOf S v)) ≤ S.2.2.2.1 then (S.2.1 + (FX2_aOf S v)) else ((S.2.1 + (FX2_aOf S v)) + (FX2_leftOut S))) else (S.2.1 + (FX2_aOf S v))) else (-2000000000 : Int32)) else (-2000000000 : Int32))))
set_option maxHeartbeats 4000000 in
set_option maxRecDepth 100000 in
theorem kX2_leastValueAt {G : xG} {l : Launch} {d : Nat} {h : xH} {Q : Option Value → xH → Prop} {o : Nat} {S : xS} {v : Int32} (ho : h o = some (xSc S)) (hfd : ¬ S.2.2.2.2.2 < 2 → ¬ 2 * (S.2.2.2.2.2 - 1) = 0)  (hQ : Q (some (.int (FX2_leastValueAt S v))) h) : xV G l mX2_leastValueAt (d + 2) 0 0 0 0 0 [.ref o, .int v, xU, xU, xU, xU] [] h Q := by
  refine x_aload_n dX2_leastValueAt_0 rfl ?_
  refine x_get 5 dX2_leastValueAt_1 ho rfl (by decide) (by decide +kernel) rfl ?_
  refine x_iconst (v := 2) dX2_leastValueAt_4 (by decide) ?_
  refine x_icmp_lt (tgt := 20) dX2_leastValueAt_5 (by decide) (fun hc_5 => ?_) (fun hc_5 => ?_)
  · refine x_ldc (v := (-2000000000)) dX2_leastValueAt_20 (by decide +kernel) ?_
    exact x_iret dX2_leastValueAt_22 rfl (xri (by unfold FX2_leastValueAt; rw [if_pos hc_5]) hQ)
  · refine x_iload_n dX2_leastValueAt_8 rfl ?_
    refine x_if_lt (tgt := 20) dX2_leastValueAt_9 (by decide) (fun hc_9 => ?_) (fun hc_9 => ?_)
    · refine x_ldc (v := (-2000000000)) dX2_leastValueAt_20 (by decide +kernel) ?_
      exact x_iret dX2_leastValueAt_22 rfl (xri (by unfold FX2_leastValueAt; rw [if_neg hc_5, if_pos hc_9]) hQ)
    · refine x_iload_n dX2_leastValueAt_12 rfl ?_
      refine x_aload_n dX2_leastValueAt_13 rfl ?_
      refine x_get 5 dX2_leastValueAt_14 ho rfl (by decide) (by decide +kernel) rfl ?_
      refine x_icmp_lt (tgt := 23) dX2_leastValueAt_17 (by decide) (fun hc_17 => ?_) (fun hc_17 => ?_)
      · refine x_aload_n dX2_leastValueAt_23 rfl ?_
        refine x_get 0 dX2_leastValueAt_24 ho rfl (by decide) (by decide +kernel) rfl ?_
        refine x_iconst (v := 1) dX2_leastValueAt_27 (by decide) ?_
        have J43 : xV G l mX2_leastValueAt (d + 2) 0 0 0 0 43 [.ref o, .int v, xU, xU, xU, xU] [.int (if S.1 = (1 : Int32) then ((S.2.2.2.2.2 - (1 : Int32)) - v) else v)] h Q := by
          refine x_istore_n dX2_leastValueAt_43 (by decide) rfl ?_
          refine x_aload_n dX2_leastValueAt_44 rfl ?_
          refine x_get 2 dX2_leastValueAt_45 ho rfl (by decide) (by decide +kernel) rfl ?_
          refine x_aload_n dX2_leastValueAt_48 rfl ?_
          refine x_get 1 dX2_leastValueAt_49 ho rfl (by decide) (by decide +kernel) rfl ?_
          refine x_isub dX2_leastValueAt_52 ?_
          refine x_aload_n dX2_leastValueAt_53 rfl ?_
          refine x_callV (M' := mX2_leftOut) (mc' := 0) (ms' := 0) (As := []) dX2_leastValueAt_54 gX2_leastValueAt_X2_leftOut okX2_leftOut rfl rfl ho rfl (Nat.le_of_ble_eq_true rfl) (Nat.le_of_ble_eq_true rfl) (Nat.le_refl _) (Nat.le_refl _) (Nat.le_refl _) ?_
          refine kX2_leftOut ho ?_
          show xV _ _ _ _ _ _ _ _ _ _ _ _ _
          refine x_isub dX2_leastValueAt_57 ?_
          refine x_istore_n dX2_leastValueAt_58 (by decide) rfl ?_
          refine x_iconst (v := 0) dX2_leastValueAt_59 (by decide) ?_
          refine x_iload_n dX2_leastValueAt_60 rfl ?_
          refine x_ineg dX2_leastValueAt_61 ?_
          refine x_iconst (v := 2) dX2_leastValueAt_62 (by decide) ?_
          refine x_iload_n dX2_leastValueAt_63 rfl ?_
          refine x_imul dX2_leastValueAt_64 ?_
          refine x_iconst (v := 1) dX2_leastValueAt_65 (by decide) ?_
          refine x_isub dX2_leastValueAt_66 ?_
          refine x_imul dX2_leastValueAt_67 ?_
          refine x_iconst (v := 2) dX2_leastValueAt_68 (by decide) ?_
          refine x_aload_n dX2_leastValueAt_69 rfl ?_
          refine x_get 5 dX2_leastValueAt_70 ho rfl (by decide) (by decide +kernel) rfl ?_
          refine x_iconst (v := 1) dX2_leastValueAt_73 (by decide) ?_
          refine x_isub dX2_leastValueAt_74 ?_
          refine x_imul dX2_leastValueAt_75 ?_
          refine x_callS (M' := mJ9_floorDiv_7cf53) (mc' := 0) (ms' := 0) (As := [.int ((-((S.2.2.1 - S.2.1) - (FX2_leftOut S))) * (((2 : Int32) * (if S.1 = (1 : Int32) then ((S.2.2.2.2.2 - (1 : Int32)) - v) else v)) - (1 : Int32))), .int ((2 : Int32) * (S.2.2.2.2.2 - (1 : Int32)))]) dX2_leastValueAt_76 gX2_leastValueAt_J9_floorDiv_7cf53 okJ9_floorDiv_7cf53 rfl rfl (Nat.le_of_ble_eq_true rfl) (Nat.le_of_ble_eq_true rfl) (Nat.le_refl _) (Nat.le_refl _) (Nat.le_refl _) ?_
          refine kJ9_floorDiv_7cf53 (hfd hc_5) ?_
          show xV _ _ _ _ _ _ _ _ _ _ _ _ _
          refine x_ineg dX2_leastValueAt_79 ?_
          refine x_mmax dX2_leastValueAt_80 (by decide +kernel) (by decide +kernel) (by decide +kernel) (by decide +kernel) (Nat.le_of_ble_eq_true rfl) (by omega) (Nat.le_refl _) (Nat.le_refl _) ?_
          refine x_ls (st' := [.int (FX2_aOf S v)]) rfl rfl ?_
          refine x_istore dX2_leastValueAt_83 (by decide) rfl ?_
          refine x_aload_n dX2_leastValueAt_85 rfl ?_
          refine x_get 1 dX2_leastValueAt_86 ho rfl (by decide) (by decide +kernel) rfl ?_
          refine x_iload dX2_leastValueAt_89 rfl ?_
          refine x_iadd dX2_leastValueAt_91 ?_
          refine x_istore dX2_leastValueAt_92 (by decide) rfl ?_
          refine x_aload_n dX2_leastValueAt_94 rfl ?_
          refine x_get 0 dX2_leastValueAt_95 ho rfl (by decide) (by decide +kernel) rfl ?_
          refine x_iconst (v := 2) dX2_leastValueAt_98 (by decide) ?_
          have J120 : xV G l mX2_leastValueAt (d + 2) 0 0 0 0 120 [.ref o, .int v, .int (if S.1 = (1 : Int32) then ((S.2.2.2.2.2 - (1 : Int32)) - v) else v), .int ((S.2.2.1 - S.2.1) - (FX2_leftOut S)), .int (FX2_aOf S v), .int (if S.1 = (2 : Int32) then (if (S.2.1 + (FX2_aOf S v)) ≤ S.2.2.2.1 then (S.2.1 + (FX2_aOf S v)) else ((S.2.1 + (FX2_aOf S v)) + (FX2_leftOut S))) else (S.2.1 + (FX2_aOf S v)))] [] h Q := by
            refine x_aload_n dX2_leastValueAt_120 rfl ?_
            refine x_iload dX2_leastValueAt_121 rfl ?_
            refine x_callV (M' := mX2_placeOf) (mc' := 0) (ms' := 0) (As := [.int (if S.1 = (2 : Int32) then (if (S.2.1 + (FX2_aOf S v)) ≤ S.2.2.2.1 then (S.2.1 + (FX2_aOf S v)) else ((S.2.1 + (FX2_aOf S v)) + (FX2_leftOut S))) else (S.2.1 + (FX2_aOf S v)))]) dX2_leastValueAt_123 gX2_leastValueAt_X2_placeOf okX2_placeOf rfl rfl ho rfl (Nat.le_of_ble_eq_true rfl) (Nat.le_of_ble_eq_true rfl) (Nat.le_refl _) (Nat.le_refl _) (Nat.le_refl _) ?_
            refine kX2_placeOf ho ?_
            show xV _ _ _ _ _ _ _ _ _ _ _ _ _
            refine x_iload_n dX2_leastValueAt_126 rfl ?_
            have J137 : xV G l mX2_leastValueAt (d + 2) 0 0 0 0 137 [.ref o, .int v, .int (if S.1 = (1 : Int32) then ((S.2.2.2.2.2 - (1 : Int32)) - v) else v), .int ((S.2.2.1 - S.2.1) - (FX2_leftOut S)), .int (FX2_aOf S v), .int (if S.1 = (2 : Int32) then (if (S.2.1 + (FX2_aOf S v)) ≤ S.2.2.2.1 then (S.2.1 + (FX2_aOf S v)) else ((S.2.1 + (FX2_aOf S v)) + (FX2_leftOut S))) else (S.2.1 + (FX2_aOf S v)))] [.int (if (FX2_placeOf S (if S.1 = (2 : Int32) then (if (S.2.1 + (FX2_aOf S v)) ≤ S.2.2.2.1 then (S.2.1 + (FX2_aOf S v)) else ((S.2.1 + (FX2_aOf S v)) + (FX2_leftOut S))) else (S.2.1 + (FX2_aOf S v)))) = v then (if S.1 = (2 : Int32) then (if (S.2.1 + (FX2_aOf S v)) ≤ S.2.2.2.1 then (S.2.1 + (FX2_aOf S v)) else ((S.2.1 + (FX2_aOf S v)) + (FX2_leftOut S))) else (S.2.1 + (FX2_aOf S v))) else (-2000000000 : Int32))] h Q := by
              exact x_iret dX2_leastValueAt_137 rfl (xri (by unfold FX2_leastValueAt; rw [if_neg hc_5, if_neg hc_9, if_pos hc_17]) hQ)
            refine x_icmp_ne (tgt := 135) dX2_leastValueAt_127 (by decide) (fun hc_127 => ?_) (fun hc_127 => ?_)
            · refine x_ldc (v := (-2000000000)) dX2_leastValueAt_135 (by decide +kernel) ?_
              exact x_ls rfl (by first | rfl | (rw [if_neg hc_127] <;> rfl) | (simp only [if_neg hc_127]; rfl) | (simp only [if_neg hc_127])) J137
            · refine x_iload dX2_leastValueAt_130 rfl ?_
              refine x_goto (tgt := 137) dX2_leastValueAt_132 (by decide) ?_
              exact x_ls rfl (by first | rfl | (rw [if_pos hc_127] <;> rfl) | (simp only [if_pos hc_127]; rfl) | (simp only [if_pos hc_127])) J137
          refine x_icmp_ne (tgt := 120) dX2_leastValueAt_99 (by decide) (fun hc_99 => ?_) (fun hc_99 => ?_)
          · exact x_ls (by first | rfl | (rw [if_neg hc_99] <;> rfl) | (simp only [if_neg hc_99]; rfl) | (simp only [if_neg hc_99])) rfl J120
          · refine x_iload dX2_leastValueAt_102 rfl ?_
            refine x_aload_n dX2_leastValueAt_104 rfl ?_
            refine x_get 3 dX2_leastValueAt_105 ho rfl (by decide) (by decide +kernel) rfl ?_
            refine x_icmp_le (tgt := 120) dX2_leastValueAt_108 (by decide) (fun hc_108 => ?_) (fun hc_108 => ?_)
            · exact x_ls (by first | rfl | (rw [if_pos hc_99, if_pos hc_108] <;> rfl) | (simp only [if_pos hc_99, if_pos hc_108]; rfl) | (simp only [if_pos hc_99, if_pos hc_108])) rfl J120
            · refine x_iload dX2_leastValueAt_111 rfl ?_
              refine x_aload_n dX2_leastValueAt_113 rfl ?_
              refine x_callV (M' := mX2_leftOut) (mc' := 0) (ms' := 0) (As := []) dX2_leastValueAt_114 gX2_leastValueAt_X2_leftOut okX2_leftOut rfl rfl ho rfl (Nat.le_of_ble_eq_true rfl) (Nat.le_of_ble_eq_true rfl) (Nat.le_refl _) (Nat.le_refl _) (Nat.le_refl _) ?_
              refine kX2_leftOut ho ?_
              show xV _ _ _ _ _ _ _ _ _ _ _ _ _
              refine x_iadd dX2_leastValueAt_117 ?_
              refine x_istore dX2_leastValueAt_118 (by decide) rfl ?_
              exact x_ls (by first | rfl | (rw [if_pos hc_99, if_neg hc_108] <;> rfl) | (simp only [if_pos hc_99, if_neg hc_108]; rfl) | (simp only [if_pos hc_99, if_neg hc_108])) rfl J120
        refine x_icmp_ne (tgt := 42) dX2_leastValueAt_28 (by decide) (fun hc_28 => ?_) (fun hc_28 => ?_)
        · refine x_iload_n dX2_leastValueAt_42 rfl ?_
          exact x_ls rfl (by first | rfl | (rw [if_neg hc_28] <;> rfl) | (simp only [if_neg hc_28]; rfl) | (simp only [if_neg hc_28])) J43
        · refine x_aload_n dX2_leastValueAt_31 rfl ?_
          refine x_get 5 dX2_leastValueAt_32 ho rfl (by decide) (by decide +kernel) rfl ?_
          refine x_iconst (v := 1) dX2_leastValueAt_35 (by decide) ?_
          refine x_isub dX2_leastValueAt_36 ?_
          refine x_iload_n dX2_leastValueAt_37 rfl ?_
          refine x_isub dX2_leastValueAt_38 ?_
          refine x_goto (tgt := 43) dX2_leastValueAt_39 (by decide) ?_
          exact x_ls rfl (by first | rfl | (rw [if_pos hc_28] <;> rfl) | (simp only [if_pos hc_28]; rfl) | (simp only [if_pos hc_28])) J43
      · refine x_ldc (v := (-2000000000)) dX2_leastValueAt_20 (by decide +kernel) ?_
        exact x_iret dX2_leastValueAt_22 rfl (xri (by unfold FX2_leastValueAt; rw [if_neg hc_5, if_neg hc_9, if_neg hc_17]) hQ)
def FX2_stepFrom (S : xS) (m : Int32) : List Int32 → Int32
  | [] => 2000000
  | t :: ts => if m < FX2_ticksBelowGap S t + FX2_ticksAboveGap S t then FX2_stepFrom S m ts else t
def FX2_stepFor (S : xS) (m : Int32) : Int32 := FX2_stepFrom S m xTick
theorem xTick_drop {j : Nat} (hj : j < 25) : xTick.drop j = xTick.getD j 0 :: xTick.drop (j + 1) := by
  have h : ∀ j, j < 25 → xTick.drop j = xTick.getD j 0 :: xTick.drop (j + 1) := by decide
  exact h j hj
set_option maxHeartbeats 4000000 in
set_option maxRecDepth 100000 in
theorem kX2_stepFor {G : xG} {l : Launch} {d : Nat} {h : xH} {Q : Option Value → xH → Prop} {o : Nat} {S : xS} {m : Int32} (ho : h o = some (xSc S)) (hQ : Q (some (.int (FX2_stepFor S m))) h) : xV G l mX2_stepFor (d + 3) 0 0 0 0 0 [.ref o, .int m, xU, xU, xU, xU] [] h Q := by
  have loop : ∀ (n9 j : Nat), j ≤ 25 → 25 < j + n9 → Q (some (.int (FX2_stepFrom S m (xTick.drop j)))) h → xV G l mX2_stepFor (d + 3) 0 0 0 0 10 [.ref o, .int m, .ref (xT1 G), .int 25, .int (nI j), xU] [] h Q := by
    intro n9
    induction n9 with
    | zero => intro j h1 h2; exact absurd h2 (by omega)
    | succ n9 ih =>
      intro j hj1 hjn hQ
      refine x_iload dX2_stepFor_10 rfl ?_
      refine x_iload_n dX2_stepFor_12 rfl ?_
      refine x_icmp_ge (tgt := 48) dX2_stepFor_13 (by decide) (fun hc_13 => ?_) (fun hc_13 => ?_)
      · have hj2 : j = 25 := by have := (nI_leI (a := 25) (b := j) (by decide) (by omega)).mp hc_13; omega
        subst hj2
        refine x_ldc (v := 2000000) dX2_stepFor_48 (by decide +kernel) ?_
        exact x_iret dX2_stepFor_50 rfl (xri rfl hQ)
      · have hj2 : j < 25 := Nat.not_le.mp fun q => hc_13 (nI_le q (by omega))
        refine x_aload_n dX2_stepFor_16 rfl ?_
        refine x_iload dX2_stepFor_17 rfl ?_
        refine x_tld (f := (fun j => xTick.getD j 0)) dX2_stepFor_19 (fun s q => q.2.2.2.1.1) (vp_in_nI hj2 (by decide)) ?_
        refine x_istore dX2_stepFor_20 (by decide) rfl ?_
        refine x_aload_n dX2_stepFor_22 rfl ?_
        refine x_iload dX2_stepFor_23 rfl ?_
        refine x_callV (M' := mX2_ticksBelowGap) (mc' := 0) (ms' := 0) (As := [.int ((fun j => xTick.getD j 0) (Int32.toNatClampNeg (nI j)))]) dX2_stepFor_25 gX2_stepFor_X2_ticksBelowGap okX2_ticksBelowGap rfl rfl ho rfl (Nat.le_of_ble_eq_true rfl) (Nat.le_of_ble_eq_true rfl) (Nat.le_refl _) (Nat.le_refl _) (Nat.le_refl _) ?_
        refine kX2_ticksBelowGap ho ?_
        show xV _ _ _ _ _ _ _ _ _ _ _ _ _
        refine x_aload_n dX2_stepFor_28 rfl ?_
        refine x_iload dX2_stepFor_29 rfl ?_
        refine x_callV (M' := mX2_ticksAboveGap) (mc' := 0) (ms' := 0) (As := [.int ((fun j => xTick.getD j 0) (Int32.toNatClampNeg (nI j)))]) dX2_stepFor_31 gX2_stepFor_X2_ticksAboveGap okX2_ticksAboveGap rfl rfl ho rfl (Nat.le_of_ble_eq_true rfl) (Nat.le_of_ble_eq_true rfl) (Nat.le_refl _) (Nat.le_refl _) (Nat.le_refl _) ?_
        refine kX2_ticksAboveGap ho ?_
        show xV _ _ _ _ _ _ _ _ _ _ _ _ _
        refine x_iadd dX2_stepFor_34 ?_
        refine x_iload_n dX2_stepFor_35 rfl ?_
        refine x_icmp_gt (tgt := 42) dX2_stepFor_36 (by decide) (fun hc_36 => ?_) (fun hc_36 => ?_)
        · refine x_iinc (v := 1) dX2_stepFor_42 rfl (by decide) (by decide) rfl ?_
          refine x_goto (tgt := 10) dX2_stepFor_45 (by decide) ?_
          refine xV.sub (L' := [.ref o, .int m, .ref (xT1 G), .int 25, .int (nI (j + 1)), xU]) ⟨Or.inr rfl, Or.inr rfl, Or.inr rfl, Or.inr rfl, Or.inr (congrArg Value.int (nI_1 j)), Or.inl rfl, trivial⟩ (ih (j + 1) (by omega) (by omega) ?_)
          rw [nI_clamp (by omega)] at hc_36
          rw [xTick_drop hj2, FX2_stepFrom, if_pos hc_36] at hQ
          exact hQ
        · refine x_iload dX2_stepFor_39 rfl ?_
          refine x_iret dX2_stepFor_41 rfl (xri ?_ hQ)
          rw [nI_clamp (by omega)] at hc_36 ⊢
          rw [xTick_drop hj2, FX2_stepFrom, if_neg hc_36]
  refine x_getsN dX2_stepFor_0 (fun s q => q.2.2.1.1) (fun s q => q.2.2.2.2.2.2.2.1) ?_
  refine x_astore_n dX2_stepFor_3 (by decide) rfl ?_
  refine x_aload_n dX2_stepFor_4 rfl ?_
  refine x_tlen (v := 25) dX2_stepFor_5 (fun s q => q.2.2.2.1.1) (by decide) ?_
  refine x_istore_n dX2_stepFor_6 (by decide) rfl ?_
  refine x_iconst (v := 0) dX2_stepFor_7 (by decide) ?_
  refine x_istore dX2_stepFor_8 (by decide) rfl ?_
  exact loop 26 0 (by omega) (by omega) hQ
def FX2_tickAt (S : xS) (m k : Int32) : Int32 := (if 0 ≤ k then (if (FX2_ticksBelowGap S (FX2_stepFor S m)) ≤ k then (if (FX2_ticksAboveGap S (FX2_stepFor S m)) ≤ (k - (FX2_ticksBelowGap S (FX2_stepFor S m))) then (-2000000000 : Int32) else ((FX2_firstMultiple S.2.2.2.2.1 (FX2_stepFor S m)) + ((k - (FX2_ticksBelowGap S (FX2_stepFor S m))) * (FX2_stepFor S m)))) else ((FX2_firstMultiple S.2.1 (FX2_stepFor S m)) + (k * (FX2_stepFor S m)))) else (-2000000000 : Int32))
set_option maxHeartbeats 4000000 in
set_option maxRecDepth 100000 in
theorem kX2_tickAt {G : xG} {l : Launch} {d : Nat} {h : xH} {Q : Option Value → xH → Prop} {o : Nat} {S : xS} {m k : Int32} (ho : h o = some (xSc S))  (hQ : Q (some (.int (FX2_tickAt S m k))) h) : xV G l mX2_tickAt (d + 4) 0 0 0 0 0 [.ref o, .int m, .int k, xU, xU] [] h Q := by
  refine x_aload_n dX2_tickAt_0 rfl ?_
  refine x_iload_n dX2_tickAt_1 rfl ?_
  refine x_callV (M' := mX2_stepFor) (mc' := 0) (ms' := 0) (As := [.int m]) dX2_tickAt_2 gX2_tickAt_X2_stepFor okX2_stepFor rfl rfl ho rfl (Nat.le_of_ble_eq_true rfl) (Nat.le_of_ble_eq_true rfl) (Nat.le_refl _) (Nat.le_refl _) (Nat.le_refl _) ?_
  refine kX2_stepFor ho ?_
  show xV _ _ _ _ _ _ _ _ _ _ _ _ _
  refine x_istore_n dX2_tickAt_5 (by decide) rfl ?_
  refine x_aload_n dX2_tickAt_6 rfl ?_
  refine x_iload_n dX2_tickAt_7 rfl ?_
  refine x_callV (M' := mX2_ticksBelowGap) (mc' := 0) (ms' := 0) (As := [.int (FX2_stepFor S m)]) dX2_tickAt_8 gX2_tickAt_X2_ticksBelowGap okX2_ticksBelowGap rfl rfl ho rfl (Nat.le_of_ble_eq_true rfl) (Nat.le_of_ble_eq_true rfl) (Nat.le_refl _) (Nat.le_refl _) (Nat.le_refl _) ?_
  refine kX2_ticksBelowGap ho ?_
  show xV _ _ _ _ _ _ _ _ _ _ _ _ _
  refine x_istore dX2_tickAt_11 (by decide) rfl ?_
  refine x_iload_n dX2_tickAt_13 rfl ?_
  refine x_if_ge (tgt := 20) dX2_tickAt_14 (by decide) (fun hc_14 => ?_) (fun hc_14 => ?_)
  · refine x_iload_n dX2_tickAt_20 rfl ?_
    refine x_iload dX2_tickAt_21 rfl ?_
    refine x_icmp_ge (tgt := 39) dX2_tickAt_23 (by decide) (fun hc_23 => ?_) (fun hc_23 => ?_)
    · refine x_iload_n dX2_tickAt_39 rfl ?_
      refine x_iload dX2_tickAt_40 rfl ?_
      refine x_isub dX2_tickAt_42 ?_
      refine x_aload_n dX2_tickAt_43 rfl ?_
      refine x_iload_n dX2_tickAt_44 rfl ?_
      refine x_callV (M' := mX2_ticksAboveGap) (mc' := 0) (ms' := 0) (As := [.int (FX2_stepFor S m)]) dX2_tickAt_45 gX2_tickAt_X2_ticksAboveGap okX2_ticksAboveGap rfl rfl ho rfl (Nat.le_of_ble_eq_true rfl) (Nat.le_of_ble_eq_true rfl) (Nat.le_refl _) (Nat.le_refl _) (Nat.le_refl _) ?_
      refine kX2_ticksAboveGap ho ?_
      show xV _ _ _ _ _ _ _ _ _ _ _ _ _
      refine x_icmp_ge (tgt := 67) dX2_tickAt_48 (by decide) (fun hc_48 => ?_) (fun hc_48 => ?_)
      · refine x_ldc (v := (-2000000000)) dX2_tickAt_67 (by decide +kernel) ?_
        exact x_iret dX2_tickAt_69 rfl (xri (by unfold FX2_tickAt; rw [if_pos hc_14, if_pos hc_23, if_pos hc_48]) hQ)
      · refine x_aload_n dX2_tickAt_51 rfl ?_
        refine x_get 4 dX2_tickAt_52 ho rfl (by decide) (by decide +kernel) rfl ?_
        refine x_iload_n dX2_tickAt_55 rfl ?_
        refine x_callS (M' := mX2_firstMultiple) (mc' := 0) (ms' := 0) (As := [.int S.2.2.2.2.1, .int (FX2_stepFor S m)]) dX2_tickAt_56 gX2_tickAt_X2_firstMultiple okX2_firstMultiple rfl rfl (Nat.le_of_ble_eq_true rfl) (Nat.le_of_ble_eq_true rfl) (Nat.le_refl _) (Nat.le_refl _) (Nat.le_refl _) ?_
        refine kX2_firstMultiple  ?_
        show xV _ _ _ _ _ _ _ _ _ _ _ _ _
        refine x_iload_n dX2_tickAt_59 rfl ?_
        refine x_iload dX2_tickAt_60 rfl ?_
        refine x_isub dX2_tickAt_62 ?_
        refine x_iload_n dX2_tickAt_63 rfl ?_
        refine x_imul dX2_tickAt_64 ?_
        refine x_iadd dX2_tickAt_65 ?_
        exact x_iret dX2_tickAt_66 rfl (xri (by unfold FX2_tickAt; rw [if_pos hc_14, if_pos hc_23, if_neg hc_48]) hQ)
    · refine x_aload_n dX2_tickAt_26 rfl ?_
      refine x_get 1 dX2_tickAt_27 ho rfl (by decide) (by decide +kernel) rfl ?_
      refine x_iload_n dX2_tickAt_30 rfl ?_
      refine x_callS (M' := mX2_firstMultiple) (mc' := 0) (ms' := 0) (As := [.int S.2.1, .int (FX2_stepFor S m)]) dX2_tickAt_31 gX2_tickAt_X2_firstMultiple okX2_firstMultiple rfl rfl (Nat.le_of_ble_eq_true rfl) (Nat.le_of_ble_eq_true rfl) (Nat.le_refl _) (Nat.le_refl _) (Nat.le_refl _) ?_
      refine kX2_firstMultiple  ?_
      show xV _ _ _ _ _ _ _ _ _ _ _ _ _
      refine x_iload_n dX2_tickAt_34 rfl ?_
      refine x_iload_n dX2_tickAt_35 rfl ?_
      refine x_imul dX2_tickAt_36 ?_
      refine x_iadd dX2_tickAt_37 ?_
      exact x_iret dX2_tickAt_38 rfl (xri (by unfold FX2_tickAt; rw [if_pos hc_14, if_neg hc_23]) hQ)
  · refine x_ldc (v := (-2000000000)) dX2_tickAt_17 (by decide +kernel) ?_
    exact x_iret dX2_tickAt_19 rfl (xri (by unfold FX2_tickAt; rw [if_neg hc_14]) hQ)
