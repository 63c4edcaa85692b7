/-! THE LAW: its cases -/
section ZL1
variable {P : State → Prop} {G : xG} {l : Launch} {b sl sc sm k n : Nat} {xs : Nat → Int32} {i : Int32} {nm : String} {h : xH} {Q : Option Value → xH → Prop}
set_option maxHeartbeats 4000000 in
theorem kL_style (hs : ∀ s : State, P s → xK G s → va_T .int b sl (fun j => .int (xs j)) (fun q => xB G ≤ q) s (xH0 G)) (h1 : vp_in (i + 1) sl) (h2 : vp_in (i + 2) sl) (h3 : vp_in (i + 3) sl) (h4 : vp_in (i + 4) sl) (hT3 : xT3 G < xB G) (hi : zInv G sc sm h) (hk : k + 9 ≤ 600000) (hn : n + 1400 ≤ 7302250) (kk : ∀ h8, zInv G sc sm h8 → xW P G l (mL9 nm) 11 600000 7302250 (k + 9) (n + 1400) 1004 [.ref b, .ref sc, .ref sm, .int i] [] h8 Q) : xW P G l (mL9 nm) 11 600000 7302250 k n 485 [.ref b, .ref sc, .ref sm, .int i] [] h Q := by
  refine w_aload_n dL_law_485 rfl ?_
  refine w_aload_n dL_law_486 rfl ?_
  refine w_iload_n dL_law_487 rfl ?_
  refine w_iconst (v := 1) dL_law_488 (by decide) ?_
  refine w_iadd dL_law_489 ?_
  refine w_tld dL_law_490 hs h1 ?_
  refine w_aload_n dL_law_491 rfl ?_
  refine w_iload_n dL_law_492 rfl ?_
  refine w_iconst (v := 2) dL_law_493 (by decide) ?_
  refine w_iadd dL_law_494 ?_
  refine w_tld dL_law_495 hs h2 ?_
  refine w_aload_n dL_law_496 rfl ?_
  refine w_iload_n dL_law_497 rfl ?_
  refine w_iconst (v := 3) dL_law_498 (by decide) ?_
  refine w_iadd dL_law_499 ?_
  refine w_tld dL_law_500 hs h3 ?_
  obtain ⟨fs, hrc⟩ := hi.rc
  refine w_callV (M' := mX5_style) (mc' := 0) (ms' := 0) (As := [.int (xs (Int32.toNatClampNeg (i + 1))), .int (xs (Int32.toNatClampNeg (i + 2))), .int (xs (Int32.toNatClampNeg (i + 3)))]) dL_law_501 gL_law_X5_style okX5_style rfl rfl hrc rfl (Nat.le_of_ble_eq_true rfl) (Nat.le_of_ble_eq_true rfl) (Nat.le_refl _) (by omega) (by omega) ?_
  refine zc_style hi (fun v h9 hR => ?_)
  obtain ⟨⟨fs2, hr2⟩, hR⟩ := hR
  show xW _ _ _ _ _ _ _ _ _ _ _ _ _ _
  refine w_aload_n dL_law_504 rfl ?_
  refine w_aload_n dL_law_505 rfl ?_
  refine w_iload_n dL_law_506 rfl ?_
  refine w_iconst (v := 1) dL_law_507 (by decide) ?_
  refine w_iadd dL_law_508 ?_
  refine w_tld dL_law_509 hs h1 ?_
  refine w_aload_n dL_law_510 rfl ?_
  refine w_iload_n dL_law_511 rfl ?_
  refine w_iconst (v := 2) dL_law_512 (by decide) ?_
  refine w_iadd dL_law_513 ?_
  refine w_tld dL_law_514 hs h2 ?_
  refine w_aload_n dL_law_515 rfl ?_
  refine w_iload_n dL_law_516 rfl ?_
  refine w_iconst (v := 3) dL_law_517 (by decide) ?_
  refine w_iadd dL_law_518 ?_
  refine w_tld dL_law_519 hs h3 ?_
  refine w_callV (M' := mX6_style) (mc' := 0) (ms' := 0) (As := [.int (xs (Int32.toNatClampNeg (i + 1))), .int (xs (Int32.toNatClampNeg (i + 2))), .int (xs (Int32.toNatClampNeg (i + 3)))]) dL_law_520 gL_law_X6_style okX6_style rfl rfl hr2 rfl (Nat.le_of_ble_eq_true rfl) (Nat.le_of_ble_eq_true rfl) (Nat.le_refl _) (by omega) (by omega) ?_
  refine hR _ (fun h8 hi8 => ?_)
  show xW _ _ _ _ _ _ _ _ _ _ _ _ _ _
  refine w_icmp_eq (tgt := 1004) dL_law_523 (by decide) (fun _ => ?_) (fun z => absurd rfl z)
  exact xW.wd (by omega) (by omega) (kk h8 hi8)
set_option maxHeartbeats 4000000 in
theorem kL_point (hs : ∀ s : State, P s → xK G s → va_T .int b sl (fun j => .int (xs j)) (fun q => xB G ≤ q) s (xH0 G)) (h1 : vp_in (i + 1) sl) (h2 : vp_in (i + 2) sl) (h3 : vp_in (i + 3) sl) (h4 : vp_in (i + 4) sl) (hT3 : xT3 G < xB G) (hi : zInv G sc sm h) (hk : k + 9 ≤ 600000) (hn : n + 1400 ≤ 7302250) (kk : ∀ h8, zInv G sc sm h8 → xW P G l (mL9 nm) 11 600000 7302250 (k + 9) (n + 1400) 1004 [.ref b, .ref sc, .ref sm, .int i] [] h8 Q) : xW P G l (mL9 nm) 11 600000 7302250 k n 528 [.ref b, .ref sc, .ref sm, .int i] [] h Q := by
  refine w_aload_n dL_law_528 rfl ?_
  refine w_aload_n dL_law_529 rfl ?_
  refine w_iload_n dL_law_530 rfl ?_
  refine w_iconst (v := 1) dL_law_531 (by decide) ?_
  refine w_iadd dL_law_532 ?_
  refine w_tld dL_law_533 hs h1 ?_
  refine w_aload_n dL_law_534 rfl ?_
  refine w_iload_n dL_law_535 rfl ?_
  refine w_iconst (v := 2) dL_law_536 (by decide) ?_
  refine w_iadd dL_law_537 ?_
  refine w_tld dL_law_538 hs h2 ?_
  refine w_aload_n dL_law_539 rfl ?_
  refine w_iload_n dL_law_540 rfl ?_
  refine w_iconst (v := 3) dL_law_541 (by decide) ?_
  refine w_iadd dL_law_542 ?_
  refine w_tld dL_law_543 hs h3 ?_
  refine w_aload_n dL_law_544 rfl ?_
  refine w_iload_n dL_law_545 rfl ?_
  refine w_iconst (v := 4) dL_law_546 (by decide) ?_
  refine w_iadd dL_law_547 ?_
  refine w_tld dL_law_548 hs h4 ?_
  obtain ⟨fs, hrc⟩ := hi.rc
  refine w_callV (M' := mX5_point) (mc' := 0) (ms' := 0) (As := [.int (xs (Int32.toNatClampNeg (i + 1))), .int (xs (Int32.toNatClampNeg (i + 2))), .int (xs (Int32.toNatClampNeg (i + 3))), .int (xs (Int32.toNatClampNeg (i + 4)))]) dL_law_549 gL_law_X5_point okX5_point rfl rfl hrc rfl (Nat.le_of_ble_eq_true rfl) (Nat.le_of_ble_eq_true rfl) (Nat.le_refl _) (by omega) (by omega) ?_
  refine zc_point hi (fun v h9 hR => ?_)
  obtain ⟨⟨fs2, hr2⟩, hR⟩ := hR
  show xW _ _ _ _ _ _ _ _ _ _ _ _ _ _
  refine w_aload_n dL_law_552 rfl ?_
  refine w_aload_n dL_law_553 rfl ?_
  refine w_iload_n dL_law_554 rfl ?_
  refine w_iconst (v := 1) dL_law_555 (by decide) ?_
  refine w_iadd dL_law_556 ?_
  refine w_tld dL_law_557 hs h1 ?_
  refine w_aload_n dL_law_558 rfl ?_
  refine w_iload_n dL_law_559 rfl ?_
  refine w_iconst (v := 2) dL_law_560 (by decide) ?_
  refine w_iadd dL_law_561 ?_
  refine w_tld dL_law_562 hs h2 ?_
  refine w_aload_n dL_law_563 rfl ?_
  refine w_iload_n dL_law_564 rfl ?_
  refine w_iconst (v := 3) dL_law_565 (by decide) ?_
  refine w_iadd dL_law_566 ?_
  refine w_tld dL_law_567 hs h3 ?_
  refine w_aload_n dL_law_568 rfl ?_
  refine w_iload_n dL_law_569 rfl ?_
  refine w_iconst (v := 4) dL_law_570 (by decide) ?_
  refine w_iadd dL_law_571 ?_
  refine w_tld dL_law_572 hs h4 ?_
  refine w_callV (M' := mX6_point) (mc' := 0) (ms' := 0) (As := [.int (xs (Int32.toNatClampNeg (i + 1))), .int (xs (Int32.toNatClampNeg (i + 2))), .int (xs (Int32.toNatClampNeg (i + 3))), .int (xs (Int32.toNatClampNeg (i + 4)))]) dL_law_573 gL_law_X6_point okX6_point rfl rfl hr2 rfl (Nat.le_of_ble_eq_true rfl) (Nat.le_of_ble_eq_true rfl) (Nat.le_refl _) (by omega) (by omega) ?_
  refine hR _ (fun h8 hi8 => ?_)
  show xW _ _ _ _ _ _ _ _ _ _ _ _ _ _
  refine w_icmp_eq (tgt := 1004) dL_law_576 (by decide) (fun _ => ?_) (fun z => absurd rfl z)
  exact xW.wd (by omega) (by omega) (kk h8 hi8)
set_option maxHeartbeats 4000000 in
theorem kL_gap (hs : ∀ s : State, P s → xK G s → va_T .int b sl (fun j => .int (xs j)) (fun q => xB G ≤ q) s (xH0 G)) (h1 : vp_in (i + 1) sl) (h2 : vp_in (i + 2) sl) (h3 : vp_in (i + 3) sl) (h4 : vp_in (i + 4) sl) (hT3 : xT3 G < xB G) (hi : zInv G sc sm h) (hk : k + 9 ≤ 600000) (hn : n + 1400 ≤ 7302250) (kk : ∀ h8, zInv G sc sm h8 → xW P G l (mL9 nm) 11 600000 7302250 (k + 9) (n + 1400) 1004 [.ref b, .ref sc, .ref sm, .int i] [] h8 Q) : xW P G l (mL9 nm) 11 600000 7302250 k n 581 [.ref b, .ref sc, .ref sm, .int i] [] h Q := by
  refine w_aload_n dL_law_581 rfl ?_
  refine w_aload_n dL_law_582 rfl ?_
  refine w_iload_n dL_law_583 rfl ?_
  refine w_iconst (v := 1) dL_law_584 (by decide) ?_
  refine w_iadd dL_law_585 ?_
  refine w_tld dL_law_586 hs h1 ?_
  obtain ⟨fs, hrc⟩ := hi.rc
  refine w_callV (M' := mX5_gap) (mc' := 0) (ms' := 0) (As := [.int (xs (Int32.toNatClampNeg (i + 1)))]) dL_law_587 gL_law_X5_gap okX5_gap rfl rfl hrc rfl (Nat.le_of_ble_eq_true rfl) (Nat.le_of_ble_eq_true rfl) (Nat.le_refl _) (by omega) (by omega) ?_
  refine zc_gap hi (fun v h9 hR => ?_)
  obtain ⟨⟨fs2, hr2⟩, hR⟩ := hR
  show xW _ _ _ _ _ _ _ _ _ _ _ _ _ _
  refine w_aload_n dL_law_590 rfl ?_
  refine w_aload_n dL_law_591 rfl ?_
  refine w_iload_n dL_law_592 rfl ?_
  refine w_iconst (v := 1) dL_law_593 (by decide) ?_
  refine w_iadd dL_law_594 ?_
  refine w_tld dL_law_595 hs h1 ?_
  refine w_callV (M' := mX6_gap) (mc' := 0) (ms' := 0) (As := [.int (xs (Int32.toNatClampNeg (i + 1)))]) dL_law_596 gL_law_X6_gap okX6_gap rfl rfl hr2 rfl (Nat.le_of_ble_eq_true rfl) (Nat.le_of_ble_eq_true rfl) (Nat.le_refl _) (by omega) (by omega) ?_
  refine hR _ (fun h8 hi8 => ?_)
  show xW _ _ _ _ _ _ _ _ _ _ _ _ _ _
  refine w_icmp_eq (tgt := 1004) dL_law_599 (by decide) (fun _ => ?_) (fun z => absurd rfl z)
  exact xW.wd (by omega) (by omega) (kk h8 hi8)
set_option maxHeartbeats 4000000 in
theorem kL_drop (hs : ∀ s : State, P s → xK G s → va_T .int b sl (fun j => .int (xs j)) (fun q => xB G ≤ q) s (xH0 G)) (h1 : vp_in (i + 1) sl) (h2 : vp_in (i + 2) sl) (h3 : vp_in (i + 3) sl) (h4 : vp_in (i + 4) sl) (hT3 : xT3 G < xB G) (hi : zInv G sc sm h) (hk : k + 9 ≤ 600000) (hn : n + 1400 ≤ 7302250) (kk : ∀ h8, zInv G sc sm h8 → xW P G l (mL9 nm) 11 600000 7302250 (k + 9) (n + 1400) 1004 [.ref b, .ref sc, .ref sm, .int i] [] h8 Q) : xW P G l (mL9 nm) 11 600000 7302250 k n 604 [.ref b, .ref sc, .ref sm, .int i] [] h Q := by
  refine w_aload_n dL_law_604 rfl ?_
  refine w_aload_n dL_law_605 rfl ?_
  refine w_iload_n dL_law_606 rfl ?_
  refine w_iconst (v := 1) dL_law_607 (by decide) ?_
  refine w_iadd dL_law_608 ?_
  refine w_tld dL_law_609 hs h1 ?_
  obtain ⟨fs, hrc⟩ := hi.rc
  refine w_callV (M' := mX5_drop) (mc' := 0) (ms' := 0) (As := [.int (xs (Int32.toNatClampNeg (i + 1)))]) dL_law_610 gL_law_X5_drop okX5_drop rfl rfl hrc rfl (Nat.le_of_ble_eq_true rfl) (Nat.le_of_ble_eq_true rfl) (Nat.le_refl _) (by omega) (by omega) ?_
  refine zc_drop hi (fun v h9 hR => ?_)
  obtain ⟨⟨fs2, hr2⟩, hR⟩ := hR
  show xW _ _ _ _ _ _ _ _ _ _ _ _ _ _
  refine w_aload_n dL_law_613 rfl ?_
  refine w_aload_n dL_law_614 rfl ?_
  refine w_iload_n dL_law_615 rfl ?_
  refine w_iconst (v := 1) dL_law_616 (by decide) ?_
  refine w_iadd dL_law_617 ?_
  refine w_tld dL_law_618 hs h1 ?_
  refine w_callV (M' := mX6_drop) (mc' := 0) (ms' := 0) (As := [.int (xs (Int32.toNatClampNeg (i + 1)))]) dL_law_619 gL_law_X6_drop okX6_drop rfl rfl hr2 rfl (Nat.le_of_ble_eq_true rfl) (Nat.le_of_ble_eq_true rfl) (Nat.le_refl _) (by omega) (by omega) ?_
  refine hR _ (fun h8 hi8 => ?_)
  show xW _ _ _ _ _ _ _ _ _ _ _ _ _ _
  refine w_icmp_eq (tgt := 1004) dL_law_622 (by decide) (fun _ => ?_) (fun z => absurd rfl z)
  exact xW.wd (by omega) (by omega) (kk h8 hi8)
set_option maxHeartbeats 4000000 in
theorem kL_about (hs : ∀ s : State, P s → xK G s → va_T .int b sl (fun j => .int (xs j)) (fun q => xB G ≤ q) s (xH0 G)) (h1 : vp_in (i + 1) sl) (h2 : vp_in (i + 2) sl) (h3 : vp_in (i + 3) sl) (h4 : vp_in (i + 4) sl) (hT3 : xT3 G < xB G) (hi : zInv G sc sm h) (hk : k + 9 ≤ 600000) (hn : n + 1400 ≤ 7302250) (kk : ∀ h8, zInv G sc sm h8 → xW P G l (mL9 nm) 11 600000 7302250 (k + 9) (n + 1400) 1004 [.ref b, .ref sc, .ref sm, .int i] [] h8 Q) : xW P G l (mL9 nm) 11 600000 7302250 k n 627 [.ref b, .ref sc, .ref sm, .int i] [] h Q := by
  refine w_aload_n dL_law_627 rfl ?_
  refine w_aload_n dL_law_628 rfl ?_
  refine w_iload_n dL_law_629 rfl ?_
  refine w_iconst (v := 1) dL_law_630 (by decide) ?_
  refine w_iadd dL_law_631 ?_
  refine w_tld dL_law_632 hs h1 ?_
  refine w_aload_n dL_law_633 rfl ?_
  refine w_iload_n dL_law_634 rfl ?_
  refine w_iconst (v := 2) dL_law_635 (by decide) ?_
  refine w_iadd dL_law_636 ?_
  refine w_tld dL_law_637 hs h2 ?_
  refine w_aload_n dL_law_638 rfl ?_
  refine w_iload_n dL_law_639 rfl ?_
  refine w_iconst (v := 3) dL_law_640 (by decide) ?_
  refine w_iadd dL_law_641 ?_
  refine w_tld dL_law_642 hs h3 ?_
  obtain ⟨fs, hrc⟩ := hi.rc
  refine w_callV (M' := mX5_about) (mc' := 0) (ms' := 0) (As := [.int (xs (Int32.toNatClampNeg (i + 1))), .int (xs (Int32.toNatClampNeg (i + 2))), .int (xs (Int32.toNatClampNeg (i + 3)))]) dL_law_643 gL_law_X5_about okX5_about rfl rfl hrc rfl (Nat.le_of_ble_eq_true rfl) (Nat.le_of_ble_eq_true rfl) (Nat.le_refl _) (by omega) (by omega) ?_
  refine zc_about hi (fun v h9 hR => ?_)
  obtain ⟨⟨fs2, hr2⟩, hR⟩ := hR
  show xW _ _ _ _ _ _ _ _ _ _ _ _ _ _
  refine w_aload_n dL_law_646 rfl ?_
  refine w_aload_n dL_law_647 rfl ?_
  refine w_iload_n dL_law_648 rfl ?_
  refine w_iconst (v := 1) dL_law_649 (by decide) ?_
  refine w_iadd dL_law_650 ?_
  refine w_tld dL_law_651 hs h1 ?_
  refine w_aload_n dL_law_652 rfl ?_
  refine w_iload_n dL_law_653 rfl ?_
  refine w_iconst (v := 2) dL_law_654 (by decide) ?_
  refine w_iadd dL_law_655 ?_
  refine w_tld dL_law_656 hs h2 ?_
  refine w_aload_n dL_law_657 rfl ?_
  refine w_iload_n dL_law_658 rfl ?_
  refine w_iconst (v := 3) dL_law_659 (by decide) ?_
  refine w_iadd dL_law_660 ?_
  refine w_tld dL_law_661 hs h3 ?_
  refine w_callV (M' := mX6_about) (mc' := 0) (ms' := 0) (As := [.int (xs (Int32.toNatClampNeg (i + 1))), .int (xs (Int32.toNatClampNeg (i + 2))), .int (xs (Int32.toNatClampNeg (i + 3)))]) dL_law_662 gL_law_X6_about okX6_about rfl rfl hr2 rfl (Nat.le_of_ble_eq_true rfl) (Nat.le_of_ble_eq_true rfl) (Nat.le_refl _) (by omega) (by omega) ?_
  refine hR _ (fun h8 hi8 => ?_)
  show xW _ _ _ _ _ _ _ _ _ _ _ _ _ _
  refine w_icmp_eq (tgt := 1004) dL_law_665 (by decide) (fun _ => ?_) (fun z => absurd rfl z)
  exact xW.wd (by omega) (by omega) (kk h8 hi8)
set_option maxHeartbeats 4000000 in
theorem kL_count (hs : ∀ s : State, P s → xK G s → va_T .int b sl (fun j => .int (xs j)) (fun q => xB G ≤ q) s (xH0 G)) (h1 : vp_in (i + 1) sl) (h2 : vp_in (i + 2) sl) (h3 : vp_in (i + 3) sl) (h4 : vp_in (i + 4) sl) (hT3 : xT3 G < xB G) (hi : zInv G sc sm h) (hk : k + 9 ≤ 600000) (hn : n + 1400 ≤ 7302250) (kk : ∀ h8, zInv G sc sm h8 → xW P G l (mL9 nm) 11 600000 7302250 (k + 9) (n + 1400) 1004 [.ref b, .ref sc, .ref sm, .int i] [] h8 Q) : xW P G l (mL9 nm) 11 600000 7302250 k n 670 [.ref b, .ref sc, .ref sm, .int i] [] h Q := by
  refine w_aload_n dL_law_670 rfl ?_
  refine w_aload_n dL_law_671 rfl ?_
  refine w_iload_n dL_law_672 rfl ?_
  refine w_iconst (v := 1) dL_law_673 (by decide) ?_
  refine w_iadd dL_law_674 ?_
  refine w_tld dL_law_675 hs h1 ?_
  refine w_aload_n dL_law_676 rfl ?_
  refine w_iload_n dL_law_677 rfl ?_
  refine w_iconst (v := 2) dL_law_678 (by decide) ?_
  refine w_iadd dL_law_679 ?_
  refine w_tld dL_law_680 hs h2 ?_
  obtain ⟨fs, hrc⟩ := hi.rc
  refine w_callV (M' := mX5_count) (mc' := 0) (ms' := 0) (As := [.int (xs (Int32.toNatClampNeg (i + 1))), .int (xs (Int32.toNatClampNeg (i + 2)))]) dL_law_681 gL_law_X5_count okX5_count rfl rfl hrc rfl (Nat.le_of_ble_eq_true rfl) (Nat.le_of_ble_eq_true rfl) (Nat.le_refl _) (by omega) (by omega) ?_
  refine zc_count hi (fun v h9 hR => ?_)
  obtain ⟨⟨fs2, hr2⟩, hR⟩ := hR
  show xW _ _ _ _ _ _ _ _ _ _ _ _ _ _
  refine w_aload_n dL_law_684 rfl ?_
  refine w_aload_n dL_law_685 rfl ?_
  refine w_iload_n dL_law_686 rfl ?_
  refine w_iconst (v := 1) dL_law_687 (by decide) ?_
  refine w_iadd dL_law_688 ?_
  refine w_tld dL_law_689 hs h1 ?_
  refine w_aload_n dL_law_690 rfl ?_
  refine w_iload_n dL_law_691 rfl ?_
  refine w_iconst (v := 2) dL_law_692 (by decide) ?_
  refine w_iadd dL_law_693 ?_
  refine w_tld dL_law_694 hs h2 ?_
  refine w_callV (M' := mX6_count) (mc' := 0) (ms' := 0) (As := [.int (xs (Int32.toNatClampNeg (i + 1))), .int (xs (Int32.toNatClampNeg (i + 2)))]) dL_law_695 gL_law_X6_count okX6_count rfl rfl hr2 rfl (Nat.le_of_ble_eq_true rfl) (Nat.le_of_ble_eq_true rfl) (Nat.le_refl _) (by omega) (by omega) ?_
  refine hR _ (fun h8 hi8 => ?_)
  show xW _ _ _ _ _ _ _ _ _ _ _ _ _ _
  refine w_icmp_eq (tgt := 1004) dL_law_698 (by decide) (fun _ => ?_) (fun z => absurd rfl z)
  exact xW.wd (by omega) (by omega) (kk h8 hi8)
set_option maxHeartbeats 4000000 in
theorem kL_five (hs : ∀ s : State, P s → xK G s → va_T .int b sl (fun j => .int (xs j)) (fun q => xB G ≤ q) s (xH0 G)) (h1 : vp_in (i + 1) sl) (h2 : vp_in (i + 2) sl) (h3 : vp_in (i + 3) sl) (h4 : vp_in (i + 4) sl) (hT3 : xT3 G < xB G) (hi : zInv G sc sm h) (hk : k + 9 ≤ 600000) (hn : n + 1400 ≤ 7302250) (kk : ∀ h8, zInv G sc sm h8 → xW P G l (mL9 nm) 11 600000 7302250 (k + 9) (n + 1400) 1004 [.ref b, .ref sc, .ref sm, .int i] [] h8 Q) : xW P G l (mL9 nm) 11 600000 7302250 k n 703 [.ref b, .ref sc, .ref sm, .int i] [] h Q := by
  refine w_aload_n dL_law_703 rfl ?_
  refine w_aload_n dL_law_704 rfl ?_
  refine w_iload_n dL_law_705 rfl ?_
  refine w_iconst (v := 1) dL_law_706 (by decide) ?_
  refine w_iadd dL_law_707 ?_
  refine w_tld dL_law_708 hs h1 ?_
  refine w_aload_n dL_law_709 rfl ?_
  refine w_iload_n dL_law_710 rfl ?_
  refine w_iconst (v := 2) dL_law_711 (by decide) ?_
  refine w_iadd dL_law_712 ?_
  refine w_tld dL_law_713 hs h2 ?_
  obtain ⟨fs, hrc⟩ := hi.rc
  refine w_callV (M' := mX5_five) (mc' := 0) (ms' := 0) (As := [.int (xs (Int32.toNatClampNeg (i + 1))), .int (xs (Int32.toNatClampNeg (i + 2)))]) dL_law_714 gL_law_X5_five okX5_five rfl rfl hrc rfl (Nat.le_of_ble_eq_true rfl) (Nat.le_of_ble_eq_true rfl) (Nat.le_refl _) (by omega) (by omega) ?_
  refine zc_five hi (fun v h9 hR => ?_)
  obtain ⟨⟨fs2, hr2⟩, hR⟩ := hR
  show xW _ _ _ _ _ _ _ _ _ _ _ _ _ _
  refine w_aload_n dL_law_717 rfl ?_
  refine w_aload_n dL_law_718 rfl ?_
  refine w_iload_n dL_law_719 rfl ?_
  refine w_iconst (v := 1) dL_law_720 (by decide) ?_
  refine w_iadd dL_law_721 ?_
  refine w_tld dL_law_722 hs h1 ?_
  refine w_aload_n dL_law_723 rfl ?_
  refine w_iload_n dL_law_724 rfl ?_
  refine w_iconst (v := 2) dL_law_725 (by decide) ?_
  refine w_iadd dL_law_726 ?_
  refine w_tld dL_law_727 hs h2 ?_
  refine w_callV (M' := mX6_five) (mc' := 0) (ms' := 0) (As := [.int (xs (Int32.toNatClampNeg (i + 1))), .int (xs (Int32.toNatClampNeg (i + 2)))]) dL_law_728 gL_law_X6_five okX6_five rfl rfl hr2 rfl (Nat.le_of_ble_eq_true rfl) (Nat.le_of_ble_eq_true rfl) (Nat.le_refl _) (by omega) (by omega) ?_
  refine hR _ (fun h8 hi8 => ?_)
  show xW _ _ _ _ _ _ _ _ _ _ _ _ _ _
  refine w_icmp_eq (tgt := 1004) dL_law_731 (by decide) (fun _ => ?_) (fun z => absurd rfl z)
  exact xW.wd (by omega) (by omega) (kk h8 hi8)
set_option maxHeartbeats 4000000 in
theorem kL_at (hs : ∀ s : State, P s → xK G s → va_T .int b sl (fun j => .int (xs j)) (fun q => xB G ≤ q) s (xH0 G)) (h1 : vp_in (i + 1) sl) (h2 : vp_in (i + 2) sl) (h3 : vp_in (i + 3) sl) (h4 : vp_in (i + 4) sl) (hT3 : xT3 G < xB G) (hi : zInv G sc sm h) (hk : k + 9 ≤ 600000) (hn : n + 1400 ≤ 7302250) (kk : ∀ h8, zInv G sc sm h8 → xW P G l (mL9 nm) 11 600000 7302250 (k + 9) (n + 1400) 1004 [.ref b, .ref sc, .ref sm, .int i] [] h8 Q) : xW P G l (mL9 nm) 11 600000 7302250 k n 736 [.ref b, .ref sc, .ref sm, .int i] [] h Q := by
  refine w_aload_n dL_law_736 rfl ?_
  refine w_aload_n dL_law_737 rfl ?_
  refine w_iload_n dL_law_738 rfl ?_
  refine w_iconst (v := 1) dL_law_739 (by decide) ?_
  refine w_iadd dL_law_740 ?_
  refine w_tld dL_law_741 hs h1 ?_
  refine w_aload_n dL_law_742 rfl ?_
  refine w_iload_n dL_law_743 rfl ?_
  refine w_iconst (v := 2) dL_law_744 (by decide) ?_
  refine w_iadd dL_law_745 ?_
  refine w_tld dL_law_746 hs h2 ?_
  obtain ⟨fs, hrc⟩ := hi.rc
  refine w_callV (M' := mX5_at) (mc' := 0) (ms' := 0) (As := [.int (xs (Int32.toNatClampNeg (i + 1))), .int (xs (Int32.toNatClampNeg (i + 2)))]) dL_law_747 gL_law_X5_at okX5_at rfl rfl hrc rfl (Nat.le_of_ble_eq_true rfl) (Nat.le_of_ble_eq_true rfl) (Nat.le_refl _) (by omega) (by omega) ?_
  refine zc_at hi (fun v h9 hR => ?_)
  obtain ⟨⟨fs2, hr2⟩, hR⟩ := hR
  show xW _ _ _ _ _ _ _ _ _ _ _ _ _ _
  refine w_aload_n dL_law_750 rfl ?_
  refine w_aload_n dL_law_751 rfl ?_
  refine w_iload_n dL_law_752 rfl ?_
  refine w_iconst (v := 1) dL_law_753 (by decide) ?_
  refine w_iadd dL_law_754 ?_
  refine w_tld dL_law_755 hs h1 ?_
  refine w_aload_n dL_law_756 rfl ?_
  refine w_iload_n dL_law_757 rfl ?_
  refine w_iconst (v := 2) dL_law_758 (by decide) ?_
  refine w_iadd dL_law_759 ?_
  refine w_tld dL_law_760 hs h2 ?_
  refine w_callV (M' := mX6_at) (mc' := 0) (ms' := 0) (As := [.int (xs (Int32.toNatClampNeg (i + 1))), .int (xs (Int32.toNatClampNeg (i + 2)))]) dL_law_761 gL_law_X6_at okX6_at rfl rfl hr2 rfl (Nat.le_of_ble_eq_true rfl) (Nat.le_of_ble_eq_true rfl) (Nat.le_refl _) (by omega) (by omega) ?_
  refine hR _ (fun h8 hi8 => ?_)
  show xW _ _ _ _ _ _ _ _ _ _ _ _ _ _
  refine w_icmp_eq (tgt := 1004) dL_law_764 (by decide) (fun _ => ?_) (fun z => absurd rfl z)
  exact xW.wd (by omega) (by omega) (kk h8 hi8)
end ZL1
