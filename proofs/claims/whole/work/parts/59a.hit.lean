/-! PURE: bits; hit -/
theorem fa_and (a b : Nat) : nI a &&& nI b = nI (a &&& b) := by
  apply Int32.toBitVec_inj.1
  show BitVec.ofNat 32 a &&& BitVec.ofNat 32 b = BitVec.ofNat 32 (a &&& b)
  apply BitVec.eq_of_getLsbD_eq
  intro i hi
  simp [hi]
/-- bit p; how many bits below n -/
def bt9 (a p : Nat) : Nat := a / 2 ^ p % 2
def bc9 (a : Nat) : Nat → Nat
  | 0 => 0
  | n + 1 => bc9 a n + bt9 a n
theorem bt9_01 (a p : Nat) : bt9 a p = 0 ∨ bt9 a p = 1 := by unfold bt9; omega
theorem bc9_le (a : Nat) : ∀ n, bc9 a n ≤ n
  | 0 => Nat.le_refl _
  | n + 1 => by have := bc9_le a n; have := bt9_01 a n; rw [bc9]; omega
theorem bc9_8 {l h : Nat} : bc9 (l + 256 * h) 8 = bc9 l 8 := by
  have e : ∀ i, i < 8 → bt9 (l + 256 * h) i = bt9 l i := by
    intro i hi
    unfold bt9
    rcases (show i = 0 ∨ i = 1 ∨ i = 2 ∨ i = 3 ∨ i = 4 ∨ i = 5 ∨ i = 6 ∨ i = 7 by omega) with rfl | rfl | rfl | rfl | rfl | rfl | rfl | rfl <;> simp only [Nat.reducePow] <;> omega
  simp only [bc9, e 0 (by decide), e 1 (by decide), e 2 (by decide), e 3 (by decide), e 4 (by decide), e 5 (by decide), e 6 (by decide), e 7 (by decide)]
theorem bc9_s {l h : Nat} (hl : l < 256) : ∀ n, bc9 (l + 256 * h) (8 + n) = bc9 l 8 + bc9 h n
  | 0 => by rw [Nat.add_zero, bc9_8]; rfl
  | n + 1 => by
    have e : bt9 (l + 256 * h) (8 + n) = bt9 h n := by
      unfold bt9
      rw [Nat.pow_add, ← Nat.div_div_eq_div_mul, show (2 : Nat) ^ 8 = 256 from rfl, show (l + 256 * h) / 256 = h by omega]
    rw [show 8 + (n + 1) = (8 + n) + 1 by omega, show bc9 (l + 256 * h) (8 + n + 1) = bc9 (l + 256 * h) (8 + n) + bt9 (l + 256 * h) (8 + n) from rfl, bc9_s hl n, e, show bc9 h (n + 1) = bc9 h n + bt9 h n from rfl]; omega
theorem and_sp (x y : Nat) : x &&& y = ((x % 256) &&& (y % 256)) + 256 * ((x / 256) &&& (y / 256)) := by
  have h1 : (x &&& y) % 2 ^ 8 = (x % 2 ^ 8) &&& (y % 2 ^ 8) := Nat.and_mod_two_pow
  have h2 : (x &&& y) / 2 ^ 8 = x / 2 ^ 8 &&& y / 2 ^ 8 := Nat.and_div_two_pow
  rw [show (2 : Nat) ^ 8 = 256 from rfl] at h1 h2
  rw [← h1, ← h2]; omega
def B0m (m a : Nat) : Nat := a - ((a / 2) &&& m)
def B1m (m x : Nat) : Nat := (x &&& m) + ((x / 4) &&& m)
def B2m (m x : Nat) : Nat := (x + x / 16) &&& m
theorem tb0 : ∀ l, l < 256 → ∀ e, e < 2 → (l / 2 + 128 * e) &&& 85 = (l / 2) &&& 85 := by decide +kernel
theorem tb1 : ∀ l, l < 256 → ∀ e, e < 4 → (l / 4 + 64 * e) &&& 51 = (l / 4) &&& 51 := by decide +kernel
theorem tbp : ∀ b, b < 256 → B1m 51 (B0m 85 b) ≤ 68 ∧ B1m 51 (B0m 85 b) % 16 ≤ 4 ∧ B2m 15 (B1m 51 (B0m 85 b)) = bc9 b 8 ∧ B0m 85 b < 256 := by decide +kernel
theorem B0_s {l h m : Nat} (hl : l < 256) (hm : m % 256 = 85) : B0m m (l + 256 * h) = B0m 85 l + 256 * B0m (m / 256) h := by
  unfold B0m
  have e1 : (l + 256 * h) / 2 % 256 = l / 2 + 128 * (h % 2) := by omega
  have e2 : (l + 256 * h) / 2 / 256 = h / 2 := by omega
  rw [and_sp ((l + 256 * h) / 2) m, e1, e2, hm, tb0 l hl (h % 2) (by omega)]
  have b1 : (l / 2) &&& 85 ≤ l / 2 := Nat.and_le_left
  have b2 : (h / 2) &&& (m / 256) ≤ h / 2 := Nat.and_le_left
  omega
theorem B1_s {l h m : Nat} (hl : l < 256) (hm : m % 256 = 51) : B1m m (l + 256 * h) = B1m 51 l + 256 * B1m (m / 256) h := by
  unfold B1m
  have e1 : (l + 256 * h) / 4 % 256 = l / 4 + 64 * (h % 4) := by omega
  have e2 : (l + 256 * h) / 4 / 256 = h / 4 := by omega
  rw [and_sp ((l + 256 * h) / 4) m, and_sp (l + 256 * h) m, e1, e2, hm, tb1 l hl (h % 4) (by omega), show (l + 256 * h) % 256 = l by omega, show (l + 256 * h) / 256 = h by omega]
  omega
theorem B2_s {l h m : Nat} (hl : l ≤ 68) (hh : h % 16 ≤ 4) (hm : m % 256 = 15) : B2m m (l + 256 * h) = B2m 15 l + 256 * B2m (m / 256) h := by
  unfold B2m
  have e1 : (l + 256 * h + (l + 256 * h) / 16) % 256 = l + l / 16 + 16 * (h % 16) := by omega
  have e2 : (l + 256 * h + (l + 256 * h) / 16) / 256 = h + h / 16 := by omega
  rw [and_sp (l + 256 * h + (l + 256 * h) / 16) m, e1, e2, hm]
  have e3 : ∀ z : Nat, z &&& 15 = z % 16 := fun z => Nat.and_two_pow_sub_one_eq_mod z 4
  rw [e3, e3]
  omega
theorem bc_n {a : Nat} (ha : a < 2 ^ 24) : B2m 252645135 (B1m 858993459 (B0m 1431655765 a)) = bc9 (a % 256) 8 + 256 * (bc9 (a / 256 % 256) 8 + 256 * bc9 (a / 65536) 8) := by
  have h0 := tbp (a % 256) (by omega)
  have h1 := tbp (a / 256 % 256) (by omega)
  have h2 := tbp (a / 65536) (by omega)
  have ea : a = a % 256 + 256 * (a / 256 % 256 + 256 * (a / 65536 + 256 * 0)) := by omega
  have z0 : ∀ m, B0m m 0 = 0 := fun m => by unfold B0m; omega
  have z1 : ∀ m, B1m m 0 = 0 := fun m => by unfold B1m; rw [show (0 : Nat) / 4 = 0 from rfl, Nat.zero_and]
  have z2 : ∀ m, B2m m 0 = 0 := fun m => by unfold B2m; rw [show (0 : Nat) + 0 / 16 = 0 from rfl, Nat.zero_and]
  have b1 : ∀ b, b < 256 → B1m 51 (B0m 85 b) < 256 := fun b hb => by have := tbp b hb; omega
  generalize hA : a % 256 = A at *
  generalize hB : a / 256 % 256 = B at *
  generalize hC : a / 65536 = C at *
  have hA2 : A < 256 := by omega
  have hB2 : B < 256 := by omega
  have hC2 : C < 256 := by omega
  rw [ea, B0_s hA2 (by decide), B0_s hB2 (by decide), B0_s hC2 (by decide), z0]
  rw [B1_s h0.2.2.2 (by decide), B1_s h1.2.2.2 (by decide), B1_s h2.2.2.2 (by decide), z1]
  rw [B2_s h0.1 (by omega) (by decide), B2_s h1.1 (by omega) (by decide), B2_s h2.1 (by decide) (by decide), z2, h0.2.2.1, h1.2.2.1, h2.2.2.1]
  omega
theorem bitCount9 {a : Nat} (ha : a < 2 ^ 24) : FJ6_bitCount_0f7a4 (nI a) = nI (bc9 a 24) := by
  have ha' : a < 16777216 := ha
  have l0 := bc9_le (a % 256) 8
  have l1 := bc9_le (a / 256 % 256) 8
  have l2 := bc9_le (a / 65536) 8
  have e0 : FJ6_bc0 (nI a) = nI (B0m 1431655765 a) := by
    unfold FJ6_bc0
    rw [pk_ushrN (n := a) (by omega) 1 1 (by decide), show (1431655765 : Int32) = nI 1431655765 from rfl, fa_and, pk_sub (Nat.le_trans Nat.and_le_left (by omega))]; rfl
  have b0 : B0m 1431655765 a ≤ a := Nat.sub_le _ _
  have e1 : FJ6_bc1 (nI a) = nI (B1m 858993459 (B0m 1431655765 a)) := by
    unfold FJ6_bc1
    rw [e0, pk_ushrN (by omega) 2 2 (by decide), show (858993459 : Int32) = nI 858993459 from rfl, fa_and, fa_and, nI_add]; rfl
  have b1 : B1m 858993459 (B0m 1431655765 a) ≤ 2 * 858993459 := by
    unfold B1m
    have h1 : (B0m 1431655765 a) &&& 858993459 ≤ 858993459 := Nat.and_le_right
    have h2 : (B0m 1431655765 a / 4) &&& 858993459 ≤ 858993459 := Nat.and_le_right
    omega
  have e2 : FJ6_bc2 (nI a) = nI (B2m 252645135 (B1m 858993459 (B0m 1431655765 a))) := by
    unfold FJ6_bc2
    rw [e1, pk_ushrN (by omega) 4 4 (by decide), show (252645135 : Int32) = nI 252645135 from rfl, nI_add, fa_and]; rfl
  rw [bc_n ha] at e2
  generalize hA : bc9 (a % 256) 8 = A at *
  generalize hB : bc9 (a / 256 % 256) 8 = B at *
  generalize hC : bc9 (a / 65536) 8 = C at *
  have ec : bc9 a 24 = A + B + C := by
    have ea : a = a % 256 + 256 * (a / 256 % 256 + 256 * (a / 65536)) := by omega
    have s1 := bc9_s (l := a % 256) (h := a / 256 % 256 + 256 * (a / 65536)) (by omega) 16
    have s2 := bc9_s (l := a / 256 % 256) (h := a / 65536) (by omega) 8
    rw [show 8 + 16 = 24 from rfl, ← ea] at s1
    rw [show 8 + 8 = 16 from rfl] at s2
    omega
  unfold FJ6_bitCount_0f7a4
  rw [e2, pk_ushrN (by omega) 8 8 (by decide), nI_add, pk_ushrN (by omega) 16 16 (by decide), nI_add, show (63 : Int32) = nI 63 from rfl, fa_and]
  have e63 : ∀ z : Nat, z &&& 63 = z % 64 := fun z => Nat.and_two_pow_sub_one_eq_mod z 6
  have q1 : (A + 256 * (B + 256 * C)) / 2 ^ 8 = B + 256 * C := by rw [show (2 : Nat) ^ 8 = 256 from rfl]; omega
  rw [q1]
  have q2 : (A + 256 * (B + 256 * C) + (B + 256 * C)) / 2 ^ 16 = C := by rw [show (2 : Nat) ^ 16 = 65536 from rfl]; omega
  rw [q2, e63, ec, show (A + 256 * (B + 256 * C) + (B + 256 * C) + C) % 64 = A + B + C by omega]
/-- the bit with t set bits above it, below n -/
def kt9 (a : Nat) : Nat → Nat → Nat
  | 0, _ => 0
  | p + 1, t => if bt9 a p = 1 then (if t = 0 then p else kt9 a p (t - 1)) else kt9 a p t
theorem sh9 : ∀ p, p < 24 → ((nI p &&& 31).toBitVec.smod 32).toNat = p := by decide
theorem bit9 {a p : Nat} (ha : a < 2 ^ 24) (hp : p < 24) : ((nI a >>> (nI p &&& 31)) &&& 1) = nI (bt9 a p) := by
  have : a / 2 ^ p ≤ a := Nat.div_le_self _ _
  rw [pk_shrN (by omega) _ p (sh9 p hp), pk_andN (by omega) 1 (by decide)]; rfl
theorem bft9 {a : Nat} (ha : a < 2 ^ 24) : ∀ (n t : Nat), n ≤ 24 → t < bc9 a n → LX5_bft (nI a) n (nI t) = nI (kt9 a n t)
  | 0, t, _, h => absurd h (Nat.not_lt_zero t)
  | p + 1, t, hn, h => by
    have hb := bt9_01 a p
    have := bc9_le a p
    rw [bc9] at h
    rw [LX5_bft, kt9, bit9 ha (by omega)]
    rcases hb with e | e
    · rw [e, if_pos (show nI 0 = 0 from rfl), if_neg (show ¬ (0 : Nat) = 1 by decide)]
      exact bft9 ha p t (by omega) (by omega)
    · rw [e, if_neg (show ¬ nI 1 = 0 by decide), if_pos rfl]
      by_cases z : t = 0
      · rw [z, if_pos (show nI 0 = 0 from rfl), if_pos rfl]
      · rw [if_neg (nI_ne0 (by omega) (by omega)), if_neg z]
        obtain ⟨t', rfl⟩ : ∃ t', t = t' + 1 := ⟨t - 1, by omega⟩
        rw [pk_m1]
        exact bft9 ha p t' (by omega) (by omega)
theorem hitI9 {a : Nat} (ha : a < 2 ^ 24) {s : Int32} {kf : Int32 → Int32} : ∀ (n t : Nat), n ≤ 24 → t < 2 ^ 31 → LX6_hitI (nI a) s kf n (nI t) = if t < bc9 a n then (100 * s) + nI (kt9 a n t) else kf (nI (t - bc9 a n))
  | 0, t, _, _ => by rw [LX6_hitI, bc9, if_neg (Nat.not_lt_zero t)]; rfl
  | p + 1, t, hn, ht => by
    have hb := bt9_01 a p
    rw [LX6_hitI, kt9, bc9, bit9 ha (by omega)]
    rcases hb with e | e
    · rw [e, if_neg (show ¬ nI 0 = 1 by decide), if_neg (show ¬ (0 : Nat) = 1 by decide), Nat.add_zero]
      exact hitI9 ha p t (by omega) ht
    · rw [e, if_pos (show nI 1 = 1 from rfl), if_pos rfl]
      by_cases z : t = 0
      · rw [z, if_pos (show nI 0 = 0 from rfl), if_pos rfl, if_pos (by omega)]
      · rw [if_neg (nI_ne0 (by omega) ht), if_neg z]
        obtain ⟨t', rfl⟩ : ∃ t', t = t' + 1 := ⟨t - 1, by omega⟩
        rw [pk_m1, hitI9 ha p t' (by omega) (by omega), show t' + 1 - 1 = t' from rfl]
        by_cases z2 : t' < bc9 a p
        · rw [if_pos z2, if_pos (by omega)]
        · rw [if_neg z2, if_neg (by omega), show t' + 1 - (bc9 a p + 1) = t' - bc9 a p by omega]
/-- the hits from key K down -/
def Hs9 (N : Nat) (L a : Nat → Nat) : Nat → Nat → Int32
  | 0, _ => -9
  | K + 1, t => if K % 8 < N ∧ L (K % 8) = K / 8 then (if t < bc9 (a (K % 8)) 24 then (100 * nI (K % 8)) + nI (kt9 (a (K % 8)) 24 t) else Hs9 N L a K (t - bc9 (a (K % 8)) 24)) else Hs9 N L a K t
theorem bc9_0 : ∀ n, bc9 0 n = 0
  | 0 => rfl
  | n + 1 => by rw [bc9, bc9_0 n]; unfold bt9; rw [Nat.zero_div]
theorem Hs9_skip {N : Nat} {L a : Nat → Nat} {K : Nat} {t : Nat} : ∀ (d : Nat), (∀ m, m < N → m < 8 → K ≤ 8 * L m + m → 8 * L m + m < K + d → a m = 0) → Hs9 N L a (K + d) t = Hs9 N L a K t
  | 0, _ => rfl
  | d + 1, h => by
    rw [show K + (d + 1) = (K + d) + 1 by omega, Hs9]
    have ih := Hs9_skip (N := N) (L := L) (a := a) (K := K) (t := t) d (fun m h1 h2 h3 h4 => h m h1 h2 h3 (by omega))
    by_cases z : (K + d) % 8 < N ∧ L ((K + d) % 8) = (K + d) / 8
    · have e := h ((K + d) % 8) z.1 (by omega) (by rw [z.2]; omega) (by rw [z.2]; omega)
      rw [if_pos z, e, bc9_0, if_neg (Nat.not_lt_zero t), Nat.sub_zero]
      exact ih
    · rw [if_neg z]; exact ih
theorem Hs9_at {N : Nat} {L a : Nat → Nat} {m t : Nat} (hm : m < N) (h8 : m < 8) : Hs9 N L a (8 * L m + m + 1) t = (if t < bc9 (a m) 24 then (100 * nI m) + nI (kt9 (a m) 24 t) else Hs9 N L a (8 * L m + m) (t - bc9 (a m) 24)) := by
  have e1 : (8 * L m + m) % 8 = m := by omega
  have e2 : (8 * L m + m) / 8 = L m := by omega
  rw [Hs9, e1, e2, if_pos ⟨hm, rfl⟩]
section ZH
variable {cn rn Ln : Nat} {p : xPv} {n : Int32} {U : Nat → Nat → Int32} {N : Nat} {I : Nat → xSi} {V : Nat → Nat → Nat → Int32} {J : xMi} {X : Nat → Nat → Int32}
/-- the class: one layer -/
theorem z_hitI (h : zRel0 cn rn Ln p n U N I V J X) {c : Nat} (hc : c < 640) {a : Nat → Nat} (ha : ∀ m, m < N → V m 7 c = nI (a m) ∧ a m < 2 ^ 24) {L : Nat → Nat} (hL : ∀ m, m < N → X 9 m = nI (L m) ∧ L m ≤ 9) {l : Nat} (hl : l < 10) : ∀ (m t : Nat), m ≤ N → t < 2 ^ 31 → (∃ v, (hitI I V (nI c) (nI l) m (nI t)).1 = some v ∧ v = Hs9 N L a (8 * l + m) t) ∨ ((hitI I V (nI c) (nI l) m (nI t)).1 = none ∧ ∃ t', t' < 2 ^ 31 ∧ (hitI I V (nI c) (nI l) m (nI t)).2 = nI t' ∧ Hs9 N L a (8 * l) t' = Hs9 N L a (8 * l + m) t) := by
  have h6 := h.2.1
  intro m
  induction m with
  | zero => intro t _ ht; rw [hitI]; exact Or.inr ⟨rfl, t, ht, rfl, rfl⟩
  | succ m ih =>
    intro t hm ht
    have hmN : m < N := by omega
    obtain ⟨a1, a2⟩ := ha m hmN
    obtain ⟨l1, l2⟩ := hL m hmN
    have sr := (h.2.2.2.2.1 m hmN).1
    have e8 : (8 * l + m) % 8 = m := by omega
    have e9 : (8 * l + m) / 8 = l := by omega
    have bl := bc9_le (a m) 24
    rw [hitI, sr.2.1, l1, (z_hitsIn hc).1, a1, bitCount9 a2, show 8 * l + (m + 1) = (8 * l + m) + 1 by omega, Hs9, e8, e9]
    by_cases z : L m = l
    · rw [if_pos (show nI (L m) = nI l by rw [z]), if_pos (c := m < N ∧ L m = l) ⟨hmN, z⟩]
      by_cases z2 : t < bc9 (a m) 24
      · rw [if_neg (show ¬ nI (bc9 (a m) 24) ≤ nI t from nI_ge z2 (by omega)), if_pos z2]
        left
        refine ⟨_, rfl, ?_⟩
        unfold FX5_bitFromTop
        rw [bft9 a2 24 t (Nat.le_refl _) z2]
      · rw [if_pos (show nI (bc9 (a m) 24) ≤ nI t from nI_le (by omega) ht), if_neg z2, pk_sub (by omega)]
        exact ih (t - bc9 (a m) 24) (by omega) (by omega)
    · rw [if_neg (fun q => z ((nI_eq (by omega) (by omega)).mp q)), if_neg (fun q => z q.2)]
      exact ih t (by omega) ht
theorem z_hitO (h : zRel0 cn rn Ln p n U N I V J X) {c : Nat} (hc : c < 640) {a : Nat → Nat} (ha : ∀ m, m < N → V m 7 c = nI (a m) ∧ a m < 2 ^ 24) {L : Nat → Nat} (hL : ∀ m, m < N → X 9 m = nI (L m) ∧ L m ≤ 9) : ∀ (l t : Nat), l ≤ 10 → t < 2 ^ 31 → hitO N I V (nI c) l (nI t) = Hs9 N L a (8 * l) t := by
  have h6 := h.2.1
  intro l
  induction l with
  | zero => intro t _ _; rw [hitO]; rfl
  | succ l ih =>
    intro t hl ht
    have e : Hs9 N L a (8 * (l + 1)) t = Hs9 N L a (8 * l + N) t := by
      have := Hs9_skip (N := N) (L := L) (a := a) (K := 8 * l + N) (t := t) (8 - N) (fun m h1 h2 h3 h4 => by omega)
      rw [show 8 * l + N + (8 - N) = 8 * (l + 1) by omega] at this
      exact this
    rw [hitO, e]
    rcases z_hitI h hc ha hL (l := l) (by omega) N t (Nat.le_refl _) ht with ⟨v, e1, e2⟩ | ⟨e1, t', ht', e2, e3⟩
    · rw [e1]; exact e2
    · rw [e1]
      show hitO N I V (nI c) l (hitI I V (nI c) (nI l) N (nI t)).2 = _
      rw [e2, ih t' (by omega) ht', e3]
/-- the reference: the latest below a key -/
theorem z_next (h : zRel0 cn rn Ln p n U N I V J X) (hs : zShow cn rn N V X) {c : Nat} (hc : c < 640) {a : Nat → Nat} (ha : ∀ m, m < N → V m 7 c = nI (a m) ∧ a m < 2 ^ 24) {L : Nat → Nat} (hL : ∀ m, m < N → X 9 m = nI (L m) ∧ L m ≤ 9) {ah : Int32} {K : Nat} (hK : (ah = -1 ∧ K = 80) ∨ ∃ m, m < N ∧ ah = nI m ∧ K = 8 * L m + m) : ∀ (n9 j : Nat) (bs : Int32), j + n9 = N → ((bs = -1 ∧ ∀ i, i < j → a i ≠ 0 → ¬ 8 * L i + i < K) ∨ ∃ m, m < j ∧ bs = nI m ∧ a m ≠ 0 ∧ 8 * L m + m < K ∧ ∀ i, i < j → a i ≠ 0 → 8 * L i + i < K → 8 * L i + i ≤ 8 * L m + m) → ((LX6_latest J X (nI c) ah n9 j bs = -1 ∧ ∀ i, i < N → a i ≠ 0 → ¬ 8 * L i + i < K) ∨ ∃ m, m < N ∧ LX6_latest J X (nI c) ah n9 j bs = nI m ∧ a m ≠ 0 ∧ 8 * L m + m < K ∧ ∀ i, i < N → a i ≠ 0 → 8 * L i + i < K → 8 * L i + i ≤ 8 * L m + m) := by
  have h6 := h.2.1
  intro n9
  induction n9 with
  | zero =>
    intro j bs hj hr
    have : j = N := by omega
    subst this
    rw [LX6_latest]
    exact hr
  | succ n9 ih =>
    intro j bs hj hr
    have hjN : j < N := by omega
    obtain ⟨a1, a2⟩ := ha j hjN
    obtain ⟨l1, l2⟩ := hL j hjN
    rw [LX6_latest, z_hits h hs hjN hc, a1, nI_clamp (show j < 2 ^ 31 by omega), l1]
    refine ih (j + 1) _ (by omega) ?_
    have split9 : ∀ {P : Nat → Prop}, (∀ i, i < j → P i) → P j → ∀ i, i < j + 1 → P i := fun {P} h1 h2 i hi => by
      by_cases e : i = j
      · rw [e]; exact h2
      · exact h1 i (by omega)
    by_cases z : a j = 0
    · rw [if_pos (show nI (a j) = 0 by rw [z]; rfl)]
      rcases hr with ⟨e1, e2⟩ | ⟨m, e1, e2, e3, e4, e5⟩
      · exact Or.inl ⟨e1, split9 e2 (fun q => absurd z q)⟩
      · exact Or.inr ⟨m, by omega, e2, e3, e4, split9 e5 (fun q => absurd z q)⟩
    · rw [if_neg (nI_ne0 (by omega) (by omega))]
      have bef : ((if ah < 0 then (1 : Int32) else (if nI (L j) < X 9 (Int32.toNatClampNeg ah) then (1 : Int32) else (if nI (L j) = X 9 (Int32.toNatClampNeg ah) then (if ah ≤ nI j then (0 : Int32) else (1 : Int32)) else (0 : Int32)))) = 0) ↔ ¬ 8 * L j + j < K := by
        rcases hK with ⟨q1, q2⟩ | ⟨m, q1, q2, q3⟩
        · rw [q1, if_pos (by decide), q2]
          exact ⟨fun q => absurd q (by decide), fun q => by omega⟩
        · obtain ⟨m1, m2⟩ := hL m q1
          rw [q2, if_neg (nI_pos (by omega)), nI_clamp (by omega), m1, q3]
          by_cases z1 : L j < L m
          · rw [if_pos (nI_lt z1 (by omega))]
            exact ⟨fun q => absurd q (by decide), fun q => by omega⟩
          · rw [if_neg (nI_nlt (by omega) (by omega))]
            by_cases z2 : L j = L m
            · rw [if_pos (by rw [z2])]
              by_cases z3 : m ≤ j
              · rw [if_pos (nI_le z3 (by omega))]; exact ⟨fun _ => by omega, fun _ => rfl⟩
              · rw [if_neg (nI_ge (by omega) (by omega))]; exact ⟨fun q => absurd q (by decide), fun q => by omega⟩
            · rw [if_neg (fun q => z2 ((nI_eq (by omega) (by omega)).mp q))]; exact ⟨fun _ => by omega, fun _ => rfl⟩
      by_cases zb : 8 * L j + j < K
      · rw [if_neg (fun q => (bef.mp q) zb)]
        rcases hr with ⟨e1, e2⟩ | ⟨m, e1, e2, e3, e4, e5⟩
        · rw [e1, if_pos (by decide)]
          exact Or.inr ⟨j, by omega, rfl, z, zb, split9 (fun i hi q1 q2 => absurd q2 (e2 i hi q1)) (fun _ _ => Nat.le_refl _)⟩
        · obtain ⟨m1, m2⟩ := hL m (by omega)
          rw [e2, if_neg (nI_pos (by omega)), nI_clamp (by omega), m1]
          by_cases z1 : L j < L m
          · rw [if_pos (nI_lt z1 (by omega))]
            exact Or.inr ⟨m, by omega, rfl, e3, e4, split9 e5 (fun _ _ => by omega)⟩
          · rw [if_neg (nI_nlt (by omega) (by omega))]
            exact Or.inr ⟨j, by omega, rfl, z, zb, split9 (fun i hi q1 q2 => by have := e5 i hi q1 q2; omega) (fun _ _ => Nat.le_refl _)⟩
      · rw [if_pos (bef.mpr zb)]
        rcases hr with ⟨e1, e2⟩ | ⟨m, e1, e2, e3, e4, e5⟩
        · exact Or.inl ⟨e1, split9 e2 (fun _ => zb)⟩
        · exact Or.inr ⟨m, by omega, e2, e3, e4, split9 e5 (fun _ q => absurd q zb)⟩
theorem z_chain (h : zRel0 cn rn Ln p n U N I V J X) (hs : zShow cn rn N V X) {c : Nat} (hc : c < 640) {a : Nat → Nat} (ha : ∀ m, m < N → V m 7 c = nI (a m) ∧ a m < 2 ^ 24) {L : Nat → Nat} (hL : ∀ m, m < N → X 9 m = nI (L m) ∧ L m ≤ 9) : ∀ (n9 K t : Nat) (s : Int32), t < 2 ^ 31 → ((s = -1 ∧ ∀ i, i < N → a i ≠ 0 → ¬ 8 * L i + i < K) ∨ ∃ m, m < N ∧ s = nI m ∧ a m ≠ 0 ∧ 8 * L m + m < K ∧ 8 * L m + m < n9 ∧ ∀ i, i < N → a i ≠ 0 → 8 * L i + i < K → 8 * L i + i ≤ 8 * L m + m) → LX6_hitO J X (nI c) n9 s (nI t) = Hs9 N L a K t := by
  have h6 := h.2.1
  have none9 : ∀ (K t : Nat), (∀ i, i < N → a i ≠ 0 → ¬ 8 * L i + i < K) → (-9 : Int32) = Hs9 N L a K t := by
    intro K t hz
    have := Hs9_skip (N := N) (L := L) (a := a) (K := 0) (t := t) K (fun m h1 _ _ h4 => Classical.byContradiction (fun q => hz m h1 q (by omega)))
    rw [Nat.zero_add] at this
    rw [this]; rfl
  intro n9
  induction n9 with
  | zero =>
    intro K t s _ hr
    rw [LX6_hitO]
    rcases hr with ⟨e1, e2⟩ | ⟨m, e1, e2, e3, e4, e5, e6⟩
    · exact none9 K t e2
    · exact absurd e5 (Nat.not_lt_zero _)
  | succ n9 ih =>
    intro K t s ht hr
    rw [LX6_hitO]
    rcases hr with ⟨e1, e2⟩ | ⟨m, e1, e2, e3, e4, e5, e6⟩
    · rw [e1, if_pos (by decide)]
      exact none9 K t e2
    · obtain ⟨a1, a2⟩ := ha m e1
      have key : Hs9 N L a K t = Hs9 N L a (8 * L m + m + 1) t := by
        have := Hs9_skip (N := N) (L := L) (a := a) (K := 8 * L m + m + 1) (t := t) (K - (8 * L m + m + 1)) (fun i h1 _ h3 h4 => Classical.byContradiction (fun q => by have := e6 i h1 q (by omega); omega))
        rw [show 8 * L m + m + 1 + (K - (8 * L m + m + 1)) = K by omega] at this
        exact this
      rw [e2, if_neg (nI_pos (by omega)), z_hits h hs e1 hc, a1, key, Hs9_at e1 (by omega), hitI9 a2 24 t (Nat.le_refl _) ht]
      by_cases z : t < bc9 (a m) 24
      · rw [if_pos z, if_pos z]
      · rw [if_neg z, if_neg z]
        refine ih (8 * L m + m) _ _ (by omega) ?_
        have nx := z_next h hs hc ha hL (ah := nI m) (K := 8 * L m + m) (Or.inr ⟨m, e1, rfl, rfl⟩) N 0 (-1) (by omega) (Or.inl ⟨rfl, fun i hi => absurd hi (Nat.not_lt_zero i)⟩)
        have eL : FX6_latest J X (nI c) (nI m) = LX6_latest J X (nI c) (nI m) N 0 (-1) := by
          unfold FX6_latest
          rw [h6.2.1, nI_clamp (by omega)]
        rw [eL]
        rcases nx with q | ⟨m', q1, q2, q3, q4, q5⟩
        · exact Or.inl q
        · exact Or.inr ⟨m', q1, q2, q3, q4, by omega, q5⟩
theorem z_hit (h : zRel0 cn rn Ln p n U N I V J X) (hs : zShow cn rn N V X) {c t : Nat} (hc : c < 640) (ht : t < 2 ^ 31) : FX5_hit N I V (nI c) (nI t) = FX6_hitT J X (nI c) (nI t) := by
  have h6 := h.2.1
  have ha : ∃ a : Nat → Nat, ∀ m, m < N → V m 7 c = nI (a m) ∧ a m < 2 ^ 24 := by
    refine ⟨fun m => (V m 7 c).toNatClampNeg, fun m hm => ?_⟩
    obtain ⟨-, a0, b0, h1, h2, h3, -⟩ := hs m hm c hc
    have h1 : V m 7 c = nI a0 := h1
    show V m 7 c = nI (V m 7 c).toNatClampNeg ∧ (V m 7 c).toNatClampNeg < 2 ^ 24
    rw [h1, nI_clamp (by omega)]
    exact ⟨rfl, h3⟩
  obtain ⟨a, ha⟩ := ha
  have hL : ∀ m, m < N → X 9 m = nI ((X 9 m).toNatClampNeg) ∧ (X 9 m).toNatClampNeg ≤ 9 := fun m hm => by
    have := (h.2.2.2.1 m (by omega)).1
    exact ⟨nI_ofT this.1, by unfold Int32.toNatClampNeg; omega⟩
  unfold FX5_hit FX6_hitT
  rw [z_hitO h hc ha (L := fun m => (X 9 m).toNatClampNeg) hL 10 t (Nat.le_refl _) ht]
  symm
  refine z_chain h hs hc ha (L := fun m => (X 9 m).toNatClampNeg) hL 80 80 t _ ht ?_
  have nx := z_next h hs hc ha (L := fun m => (X 9 m).toNatClampNeg) hL (ah := -1) (K := 80) (Or.inl ⟨rfl, rfl⟩) N 0 (-1) (by omega) (Or.inl ⟨rfl, fun i hi => absurd hi (Nat.not_lt_zero i)⟩)
  have eL : FX6_latest J X (nI c) (-1) = LX6_latest J X (nI c) (-1) N 0 (-1) := by
    unfold FX6_latest
    rw [h6.2.1, nI_clamp (by omega)]
  rw [eL]
  rcases nx with q | ⟨m', q1, q2, q3, q4, q5⟩
  · exact Or.inl q
  · exact Or.inr ⟨m', q1, q2, q3, q4, q4, q5⟩
end ZH
