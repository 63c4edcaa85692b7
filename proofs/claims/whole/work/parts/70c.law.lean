/-! THE LAW: its cases -/
section ZL2
variable {P : State → Prop} {G : xG} {l : Launch} {b sl sc sm k n : Nat} {xs : Nat → Int32} {i : Int32} {nm : String} {h : xH} {Q : Option Value → xH → Prop}
set_option maxHeartbeats 4000000 in
theorem kL_shown (hs : ∀ s : State, P s → xK G s → va_T .int b sl (fun j => .int (xs j)) (fun q => xB G ≤ q) s (xH0 G)) (h1 : vp_in (i + 1) sl) (h2 : vp_in (i + 2) sl) (h3 : vp_in (i + 3) sl) (h4 : vp_in (i + 4) sl) (hT3 : xT3 G < xB G) (hi : zInv G sc sm h) (hk : k + 9 ≤ 600000) (hn : n + 1400 ≤ 7302250) (kk : ∀ h8, zInv G sc sm h8 → xW P G l (mL9 nm) 11 600000 7302250 (k + 9) (n + 1400) 1004 [.ref b, .ref sc, .ref sm, .int i] [] h8 Q) : xW P G l (mL9 nm) 11 600000 7302250 k n 769 [.ref b, .ref sc, .ref sm, .int i] [] h Q := by
  refine w_aload_n dL_law_769 rfl ?_
  refine w_aload_n dL_law_770 rfl ?_
  refine w_iload_n dL_law_771 rfl ?_
  refine w_iconst (v := 1) dL_law_772 (by decide) ?_
  refine w_iadd dL_law_773 ?_
  refine w_tld dL_law_774 hs h1 ?_
  refine w_aload_n dL_law_775 rfl ?_
  refine w_iload_n dL_law_776 rfl ?_
  refine w_iconst (v := 2) dL_law_777 (by decide) ?_
  refine w_iadd dL_law_778 ?_
  refine w_tld dL_law_779 hs h2 ?_
  obtain ⟨fs, hrc⟩ := hi.rc
  refine w_callV (M' := mX5_shown) (mc' := 0) (ms' := 0) (As := [.int (xs (Int32.toNatClampNeg (i + 1))), .int (xs (Int32.toNatClampNeg (i + 2)))]) dL_law_780 gL_law_X5_shown okX5_shown rfl rfl hrc rfl (Nat.le_of_ble_eq_true rfl) (Nat.le_of_ble_eq_true rfl) (Nat.le_refl _) (by omega) (by omega) ?_
  refine zc_shown hi (fun v h9 hR => ?_)
  obtain ⟨⟨fs2, hr2⟩, hR⟩ := hR
  show xW _ _ _ _ _ _ _ _ _ _ _ _ _ _
  refine w_aload_n dL_law_783 rfl ?_
  refine w_aload_n dL_law_784 rfl ?_
  refine w_iload_n dL_law_785 rfl ?_
  refine w_iconst (v := 1) dL_law_786 (by decide) ?_
  refine w_iadd dL_law_787 ?_
  refine w_tld dL_law_788 hs h1 ?_
  refine w_aload_n dL_law_789 rfl ?_
  refine w_iload_n dL_law_790 rfl ?_
  refine w_iconst (v := 2) dL_law_791 (by decide) ?_
  refine w_iadd dL_law_792 ?_
  refine w_tld dL_law_793 hs h2 ?_
  refine w_callV (M' := mX6_shown) (mc' := 0) (ms' := 0) (As := [.int (xs (Int32.toNatClampNeg (i + 1))), .int (xs (Int32.toNatClampNeg (i + 2)))]) dL_law_794 gL_law_X6_shown okX6_shown rfl rfl hr2 rfl (Nat.le_of_ble_eq_true rfl) (Nat.le_of_ble_eq_true rfl) (Nat.le_refl _) (by omega) (by omega) ?_
  refine hR _ (fun h8 hi8 => ?_)
  show xW _ _ _ _ _ _ _ _ _ _ _ _ _ _
  refine w_icmp_eq (tgt := 1004) dL_law_797 (by decide) (fun _ => ?_) (fun z => absurd rfl z)
  exact xW.wd (by omega) (by omega) (kk h8 hi8)
set_option maxHeartbeats 4000000 in
theorem kL_hit (hs : ∀ s : State, P s → xK G s → va_T .int b sl (fun j => .int (xs j)) (fun q => xB G ≤ q) s (xH0 G)) (h1 : vp_in (i + 1) sl) (h2 : vp_in (i + 2) sl) (h3 : vp_in (i + 3) sl) (h4 : vp_in (i + 4) sl) (hT3 : xT3 G < xB G) (hi : zInv G sc sm h) (hk : k + 9 ≤ 600000) (hn : n + 1400 ≤ 7302250) (kk : ∀ h8, zInv G sc sm h8 → xW P G l (mL9 nm) 11 600000 7302250 (k + 9) (n + 1400) 1004 [.ref b, .ref sc, .ref sm, .int i] [] h8 Q) : xW P G l (mL9 nm) 11 600000 7302250 k n 802 [.ref b, .ref sc, .ref sm, .int i] [] h Q := by
  refine w_aload_n dL_law_802 rfl ?_
  refine w_aload_n dL_law_803 rfl ?_
  refine w_iload_n dL_law_804 rfl ?_
  refine w_iconst (v := 1) dL_law_805 (by decide) ?_
  refine w_iadd dL_law_806 ?_
  refine w_tld dL_law_807 hs h1 ?_
  refine w_aload_n dL_law_808 rfl ?_
  refine w_iload_n dL_law_809 rfl ?_
  refine w_iconst (v := 2) dL_law_810 (by decide) ?_
  refine w_iadd dL_law_811 ?_
  refine w_tld dL_law_812 hs h2 ?_
  refine w_aload_n dL_law_813 rfl ?_
  refine w_iload_n dL_law_814 rfl ?_
  refine w_iconst (v := 3) dL_law_815 (by decide) ?_
  refine w_iadd dL_law_816 ?_
  refine w_tld dL_law_817 hs h3 ?_
  obtain ⟨fs, hrc⟩ := hi.rc
  refine w_callV (M' := mX5_hit) (mc' := 0) (ms' := 0) (As := [.int (xs (Int32.toNatClampNeg (i + 1))), .int (xs (Int32.toNatClampNeg (i + 2))), .int (xs (Int32.toNatClampNeg (i + 3)))]) dL_law_818 gL_law_X5_hit okX5_hit rfl rfl hrc rfl (Nat.le_of_ble_eq_true rfl) (Nat.le_of_ble_eq_true rfl) (Nat.le_refl _) (by omega) (by omega) ?_
  refine zc_hit hi (fun v h9 hR => ?_)
  obtain ⟨⟨fs2, hr2⟩, hR⟩ := hR
  show xW _ _ _ _ _ _ _ _ _ _ _ _ _ _
  refine w_aload_n dL_law_821 rfl ?_
  refine w_aload_n dL_law_822 rfl ?_
  refine w_iload_n dL_law_823 rfl ?_
  refine w_iconst (v := 1) dL_law_824 (by decide) ?_
  refine w_iadd dL_law_825 ?_
  refine w_tld dL_law_826 hs h1 ?_
  refine w_aload_n dL_law_827 rfl ?_
  refine w_iload_n dL_law_828 rfl ?_
  refine w_iconst (v := 2) dL_law_829 (by decide) ?_
  refine w_iadd dL_law_830 ?_
  refine w_tld dL_law_831 hs h2 ?_
  refine w_aload_n dL_law_832 rfl ?_
  refine w_iload_n dL_law_833 rfl ?_
  refine w_iconst (v := 3) dL_law_834 (by decide) ?_
  refine w_iadd dL_law_835 ?_
  refine w_tld dL_law_836 hs h3 ?_
  refine w_callV (M' := mX6_hit) (mc' := 0) (ms' := 0) (As := [.int (xs (Int32.toNatClampNeg (i + 1))), .int (xs (Int32.toNatClampNeg (i + 2))), .int (xs (Int32.toNatClampNeg (i + 3)))]) dL_law_837 gL_law_X6_hit okX6_hit rfl rfl hr2 rfl (Nat.le_of_ble_eq_true rfl) (Nat.le_of_ble_eq_true rfl) (Nat.le_refl _) (by omega) (by omega) ?_
  refine hR _ (fun h8 hi8 => ?_)
  show xW _ _ _ _ _ _ _ _ _ _ _ _ _ _
  refine w_icmp_eq (tgt := 1004) dL_law_840 (by decide) (fun _ => ?_) (fun z => absurd rfl z)
  exact xW.wd (by omega) (by omega) (kk h8 hi8)
set_option maxHeartbeats 4000000 in
theorem kL_inked (hs : ∀ s : State, P s → xK G s → va_T .int b sl (fun j => .int (xs j)) (fun q => xB G ≤ q) s (xH0 G)) (h1 : vp_in (i + 1) sl) (h2 : vp_in (i + 2) sl) (h3 : vp_in (i + 3) sl) (h4 : vp_in (i + 4) sl) (hT3 : xT3 G < xB G) (hi : zInv G sc sm h) (hk : k + 9 ≤ 600000) (hn : n + 1400 ≤ 7302250) (kk : ∀ h8, zInv G sc sm h8 → xW P G l (mL9 nm) 11 600000 7302250 (k + 9) (n + 1400) 1004 [.ref b, .ref sc, .ref sm, .int i] [] h8 Q) : xW P G l (mL9 nm) 11 600000 7302250 k n 845 [.ref b, .ref sc, .ref sm, .int i] [] h Q := by
  refine w_aload_n dL_law_845 rfl ?_
  obtain ⟨fs, hrc⟩ := hi.rc
  refine w_callV (M' := mX5_inked) (mc' := 0) (ms' := 0) (As := []) dL_law_846 gL_law_X5_inked okX5_inked rfl rfl hrc rfl (Nat.le_of_ble_eq_true rfl) (Nat.le_of_ble_eq_true rfl) (Nat.le_refl _) (by omega) (by omega) ?_
  refine zc_inked hi (fun v h9 hR => ?_)
  obtain ⟨⟨fs2, hr2⟩, hR⟩ := hR
  show xW _ _ _ _ _ _ _ _ _ _ _ _ _ _
  refine w_aload_n dL_law_849 rfl ?_
  refine w_callV (M' := mX6_inked) (mc' := 0) (ms' := 0) (As := []) dL_law_850 gL_law_X6_inked okX6_inked rfl rfl hr2 rfl (Nat.le_of_ble_eq_true rfl) (Nat.le_of_ble_eq_true rfl) (Nat.le_refl _) (by omega) (by omega) ?_
  refine hR _ (fun h8 hi8 => ?_)
  show xW _ _ _ _ _ _ _ _ _ _ _ _ _ _
  refine w_icmp_eq (tgt := 1004) dL_law_853 (by decide) (fun _ => ?_) (fun z => absurd rfl z)
  exact xW.wd (by omega) (by omega) (kk h8 hi8)
set_option maxHeartbeats 4000000 in
theorem kL_digest (hs : ∀ s : State, P s → xK G s → va_T .int b sl (fun j => .int (xs j)) (fun q => xB G ≤ q) s (xH0 G)) (h1 : vp_in (i + 1) sl) (h2 : vp_in (i + 2) sl) (h3 : vp_in (i + 3) sl) (h4 : vp_in (i + 4) sl) (hT3 : xT3 G < xB G) (hi : zInv G sc sm h) (hk : k + 9 ≤ 600000) (hn : n + 1400 ≤ 7302250) (kk : ∀ h8, zInv G sc sm h8 → xW P G l (mL9 nm) 11 600000 7302250 (k + 9) (n + 1400) 1004 [.ref b, .ref sc, .ref sm, .int i] [] h8 Q) : xW P G l (mL9 nm) 11 600000 7302250 k n 858 [.ref b, .ref sc, .ref sm, .int i] [] h Q := by
  refine w_aload_n dL_law_858 rfl ?_
  obtain ⟨fs, hrc⟩ := hi.rc
  refine w_callV (M' := mX5_digest) (mc' := 0) (ms' := 0) (As := []) dL_law_859 gL_law_X5_digest okX5_digest rfl rfl hrc rfl (Nat.le_of_ble_eq_true rfl) (Nat.le_of_ble_eq_true rfl) (Nat.le_refl _) (by omega) (by omega) ?_
  refine zc_digest hi (fun v h9 hR => ?_)
  obtain ⟨⟨fs2, hr2⟩, hR⟩ := hR
  show xW _ _ _ _ _ _ _ _ _ _ _ _ _ _
  refine w_aload_n dL_law_862 rfl ?_
  refine w_callV (M' := mX6_digest) (mc' := 0) (ms' := 0) (As := []) dL_law_863 gL_law_X6_digest okX6_digest rfl rfl hr2 rfl (Nat.le_of_ble_eq_true rfl) (Nat.le_of_ble_eq_true rfl) (Nat.le_refl _) (by omega) (by omega) ?_
  refine hR _ (fun h8 hi8 => ?_)
  show xW _ _ _ _ _ _ _ _ _ _ _ _ _ _
  refine w_lcmp dL_law_866 ?_
  refine w_if_eq (tgt := 1004) dL_law_867 (by decide) (fun _ => ?_) (fun z => absurd (z_cmp _) z)
  exact xW.wd (by omega) (by omega) (kk h8 hi8)
set_option maxHeartbeats 4000000 in
theorem kL_label (hs : ∀ s : State, P s → xK G s → va_T .int b sl (fun j => .int (xs j)) (fun q => xB G ≤ q) s (xH0 G)) (h1 : vp_in (i + 1) sl) (h2 : vp_in (i + 2) sl) (h3 : vp_in (i + 3) sl) (h4 : vp_in (i + 4) sl) (hT3 : xT3 G < xB G) (hi : zInv G sc sm h) (hk : k + 9 ≤ 600000) (hn : n + 1400 ≤ 7302250) (kk : ∀ h8, zInv G sc sm h8 → xW P G l (mL9 nm) 11 600000 7302250 (k + 9) (n + 1400) 1004 [.ref b, .ref sc, .ref sm, .int i] [] h8 Q) : xW P G l (mL9 nm) 11 600000 7302250 k n 872 [.ref b, .ref sc, .ref sm, .int i] [] h Q := by
  refine w_aload_n dL_law_872 rfl ?_
  refine w_aload_n dL_law_873 rfl ?_
  refine w_iload_n dL_law_874 rfl ?_
  refine w_iconst (v := 1) dL_law_875 (by decide) ?_
  refine w_iadd dL_law_876 ?_
  refine w_tld dL_law_877 hs h1 ?_
  refine w_aload_n dL_law_878 rfl ?_
  refine w_iload_n dL_law_879 rfl ?_
  refine w_iconst (v := 2) dL_law_880 (by decide) ?_
  refine w_iadd dL_law_881 ?_
  refine w_tld dL_law_882 hs h2 ?_
  refine w_aload_n dL_law_883 rfl ?_
  refine w_iload_n dL_law_884 rfl ?_
  refine w_iconst (v := 3) dL_law_885 (by decide) ?_
  refine w_iadd dL_law_886 ?_
  refine w_tld dL_law_887 hs h3 ?_
  obtain ⟨fs, hrc⟩ := hi.rc
  refine w_callV (M' := mX5_label) (mc' := 0) (ms' := 0) (As := [.int (xs (Int32.toNatClampNeg (i + 1))), .int (xs (Int32.toNatClampNeg (i + 2))), .int (xs (Int32.toNatClampNeg (i + 3)))]) dL_law_888 gL_law_X5_label okX5_label rfl rfl hrc rfl (Nat.le_of_ble_eq_true rfl) (Nat.le_of_ble_eq_true rfl) (Nat.le_refl _) (by omega) (by omega) ?_
  refine zc_label hi (fun v h9 hR => ?_)
  obtain ⟨⟨fs2, hr2⟩, hR⟩ := hR
  show xW _ _ _ _ _ _ _ _ _ _ _ _ _ _
  refine w_aload_n dL_law_891 rfl ?_
  refine w_aload_n dL_law_892 rfl ?_
  refine w_iload_n dL_law_893 rfl ?_
  refine w_iconst (v := 1) dL_law_894 (by decide) ?_
  refine w_iadd dL_law_895 ?_
  refine w_tld dL_law_896 hs h1 ?_
  refine w_aload_n dL_law_897 rfl ?_
  refine w_iload_n dL_law_898 rfl ?_
  refine w_iconst (v := 2) dL_law_899 (by decide) ?_
  refine w_iadd dL_law_900 ?_
  refine w_tld dL_law_901 hs h2 ?_
  refine w_aload_n dL_law_902 rfl ?_
  refine w_iload_n dL_law_903 rfl ?_
  refine w_iconst (v := 3) dL_law_904 (by decide) ?_
  refine w_iadd dL_law_905 ?_
  refine w_tld dL_law_906 hs h3 ?_
  refine w_callV (M' := mX6_label) (mc' := 0) (ms' := 0) (As := [.int (xs (Int32.toNatClampNeg (i + 1))), .int (xs (Int32.toNatClampNeg (i + 2))), .int (xs (Int32.toNatClampNeg (i + 3)))]) dL_law_907 gL_law_X6_label okX6_label rfl rfl hr2 rfl (Nat.le_of_ble_eq_true rfl) (Nat.le_of_ble_eq_true rfl) (Nat.le_refl _) (by omega) (by omega) ?_
  refine hR _ (fun h8 hi8 => ?_)
  show xW _ _ _ _ _ _ _ _ _ _ _ _ _ _
  refine w_icmp_eq (tgt := 1004) dL_law_910 (by decide) (fun _ => ?_) (fun z => absurd rfl z)
  exact xW.wd (by omega) (by omega) (kk h8 hi8)
set_option maxHeartbeats 4000000 in
theorem kL_labelled (hs : ∀ s : State, P s → xK G s → va_T .int b sl (fun j => .int (xs j)) (fun q => xB G ≤ q) s (xH0 G)) (h1 : vp_in (i + 1) sl) (h2 : vp_in (i + 2) sl) (h3 : vp_in (i + 3) sl) (h4 : vp_in (i + 4) sl) (hT3 : xT3 G < xB G) (hi : zInv G sc sm h) (hk : k + 9 ≤ 600000) (hn : n + 1400 ≤ 7302250) (kk : ∀ h8, zInv G sc sm h8 → xW P G l (mL9 nm) 11 600000 7302250 (k + 9) (n + 1400) 1004 [.ref b, .ref sc, .ref sm, .int i] [] h8 Q) : xW P G l (mL9 nm) 11 600000 7302250 k n 915 [.ref b, .ref sc, .ref sm, .int i] [] h Q := by
  refine w_aload_n dL_law_915 rfl ?_
  refine w_aload_n dL_law_916 rfl ?_
  refine w_iload_n dL_law_917 rfl ?_
  refine w_iconst (v := 1) dL_law_918 (by decide) ?_
  refine w_iadd dL_law_919 ?_
  refine w_tld dL_law_920 hs h1 ?_
  refine w_aload_n dL_law_921 rfl ?_
  refine w_iload_n dL_law_922 rfl ?_
  refine w_iconst (v := 2) dL_law_923 (by decide) ?_
  refine w_iadd dL_law_924 ?_
  refine w_tld dL_law_925 hs h2 ?_
  obtain ⟨fs, hrc⟩ := hi.rc
  refine w_callV (M' := mX5_labelled) (mc' := 0) (ms' := 0) (As := [.int (xs (Int32.toNatClampNeg (i + 1))), .int (xs (Int32.toNatClampNeg (i + 2)))]) dL_law_926 gL_law_X5_labelled okX5_labelled rfl rfl hrc rfl (Nat.le_of_ble_eq_true rfl) (Nat.le_of_ble_eq_true rfl) (Nat.le_refl _) (by omega) (by omega) ?_
  refine zc_labelled hi (fun v h9 hR => ?_)
  obtain ⟨⟨fs2, hr2⟩, hR⟩ := hR
  show xW _ _ _ _ _ _ _ _ _ _ _ _ _ _
  refine w_aload_n dL_law_929 rfl ?_
  refine w_aload_n dL_law_930 rfl ?_
  refine w_iload_n dL_law_931 rfl ?_
  refine w_iconst (v := 1) dL_law_932 (by decide) ?_
  refine w_iadd dL_law_933 ?_
  refine w_tld dL_law_934 hs h1 ?_
  refine w_aload_n dL_law_935 rfl ?_
  refine w_iload_n dL_law_936 rfl ?_
  refine w_iconst (v := 2) dL_law_937 (by decide) ?_
  refine w_iadd dL_law_938 ?_
  refine w_tld dL_law_939 hs h2 ?_
  refine w_callV (M' := mX6_labelled) (mc' := 0) (ms' := 0) (As := [.int (xs (Int32.toNatClampNeg (i + 1))), .int (xs (Int32.toNatClampNeg (i + 2)))]) dL_law_940 gL_law_X6_labelled okX6_labelled rfl rfl hr2 rfl (Nat.le_of_ble_eq_true rfl) (Nat.le_of_ble_eq_true rfl) (Nat.le_refl _) (by omega) (by omega) ?_
  refine hR _ (fun h8 hi8 => ?_)
  show xW _ _ _ _ _ _ _ _ _ _ _ _ _ _
  refine w_icmp_eq (tgt := 1004) dL_law_943 (by decide) (fun _ => ?_) (fun z => absurd rfl z)
  exact xW.wd (by omega) (by omega) (kk h8 hi8)
set_option maxHeartbeats 4000000 in
theorem kL_legend (hs : ∀ s : State, P s → xK G s → va_T .int b sl (fun j => .int (xs j)) (fun q => xB G ≤ q) s (xH0 G)) (h1 : vp_in (i + 1) sl) (h2 : vp_in (i + 2) sl) (h3 : vp_in (i + 3) sl) (h4 : vp_in (i + 4) sl) (hT3 : xT3 G < xB G) (hi : zInv G sc sm h) (hk : k + 9 ≤ 600000) (hn : n + 1400 ≤ 7302250) (kk : ∀ h8, zInv G sc sm h8 → xW P G l (mL9 nm) 11 600000 7302250 (k + 9) (n + 1400) 1004 [.ref b, .ref sc, .ref sm, .int i] [] h8 Q) : xW P G l (mL9 nm) 11 600000 7302250 k n 948 [.ref b, .ref sc, .ref sm, .int i] [] h Q := by
  refine w_aload_n dL_law_948 rfl ?_
  refine w_aload_n dL_law_949 rfl ?_
  refine w_iload_n dL_law_950 rfl ?_
  refine w_iconst (v := 1) dL_law_951 (by decide) ?_
  refine w_iadd dL_law_952 ?_
  refine w_tld dL_law_953 hs h1 ?_
  refine w_aload_n dL_law_954 rfl ?_
  refine w_iload_n dL_law_955 rfl ?_
  refine w_iconst (v := 2) dL_law_956 (by decide) ?_
  refine w_iadd dL_law_957 ?_
  refine w_tld dL_law_958 hs h2 ?_
  obtain ⟨fs, hrc⟩ := hi.rc
  refine w_callV (M' := mX5_legend) (mc' := 0) (ms' := 0) (As := [.int (xs (Int32.toNatClampNeg (i + 1))), .int (xs (Int32.toNatClampNeg (i + 2)))]) dL_law_959 gL_law_X5_legend okX5_legend rfl rfl hrc rfl (Nat.le_of_ble_eq_true rfl) (Nat.le_of_ble_eq_true rfl) (Nat.le_refl _) (by omega) (by omega) ?_
  refine zc_legend hi (fun v h9 hR => ?_)
  obtain ⟨⟨fs2, hr2⟩, hR⟩ := hR
  show xW _ _ _ _ _ _ _ _ _ _ _ _ _ _
  refine w_aload_n dL_law_962 rfl ?_
  refine w_aload_n dL_law_963 rfl ?_
  refine w_iload_n dL_law_964 rfl ?_
  refine w_iconst (v := 1) dL_law_965 (by decide) ?_
  refine w_iadd dL_law_966 ?_
  refine w_tld dL_law_967 hs h1 ?_
  refine w_aload_n dL_law_968 rfl ?_
  refine w_iload_n dL_law_969 rfl ?_
  refine w_iconst (v := 2) dL_law_970 (by decide) ?_
  refine w_iadd dL_law_971 ?_
  refine w_tld dL_law_972 hs h2 ?_
  refine w_callV (M' := mX6_legend) (mc' := 0) (ms' := 0) (As := [.int (xs (Int32.toNatClampNeg (i + 1))), .int (xs (Int32.toNatClampNeg (i + 2)))]) dL_law_973 gL_law_X6_legend okX6_legend rfl rfl hr2 rfl (Nat.le_of_ble_eq_true rfl) (Nat.le_of_ble_eq_true rfl) (Nat.le_refl _) (by omega) (by omega) ?_
  refine hR _ (fun h8 hi8 => ?_)
  show xW _ _ _ _ _ _ _ _ _ _ _ _ _ _
  refine w_icmp_eq (tgt := 1004) dL_law_976 (by decide) (fun _ => ?_) (fun z => absurd rfl z)
  exact xW.wd (by omega) (by omega) (kk h8 hi8)
set_option maxHeartbeats 4000000 in
theorem kL_told (hs : ∀ s : State, P s → xK G s → va_T .int b sl (fun j => .int (xs j)) (fun q => xB G ≤ q) s (xH0 G)) (h1 : vp_in (i + 1) sl) (h2 : vp_in (i + 2) sl) (h3 : vp_in (i + 3) sl) (h4 : vp_in (i + 4) sl) (hT3 : xT3 G < xB G) (hi : zInv G sc sm h) (hk : k + 9 ≤ 600000) (hn : n + 1400 ≤ 7302250) (kk : ∀ h8, zInv G sc sm h8 → xW P G l (mL9 nm) 11 600000 7302250 (k + 9) (n + 1400) 1004 [.ref b, .ref sc, .ref sm, .int i] [] h8 Q) : xW P G l (mL9 nm) 11 600000 7302250 k n 981 [.ref b, .ref sc, .ref sm, .int i] [] h Q := by
  refine w_aload_n dL_law_981 rfl ?_
  refine w_aload_n dL_law_982 rfl ?_
  refine w_iload_n dL_law_983 rfl ?_
  refine w_iconst (v := 1) dL_law_984 (by decide) ?_
  refine w_iadd dL_law_985 ?_
  refine w_tld dL_law_986 hs h1 ?_
  obtain ⟨fs, hrc⟩ := hi.rc
  refine w_callV (M' := mX5_told) (mc' := 0) (ms' := 0) (As := [.int (xs (Int32.toNatClampNeg (i + 1)))]) dL_law_987 gL_law_X5_told okX5_told rfl rfl hrc rfl (Nat.le_of_ble_eq_true rfl) (Nat.le_of_ble_eq_true rfl) (Nat.le_refl _) (by omega) (by omega) ?_
  refine zc_told hi (fun v h9 hR => ?_)
  obtain ⟨⟨fs2, hr2⟩, hR⟩ := hR
  show xW _ _ _ _ _ _ _ _ _ _ _ _ _ _
  refine w_aload_n dL_law_990 rfl ?_
  refine w_aload_n dL_law_991 rfl ?_
  refine w_iload_n dL_law_992 rfl ?_
  refine w_iconst (v := 1) dL_law_993 (by decide) ?_
  refine w_iadd dL_law_994 ?_
  refine w_tld dL_law_995 hs h1 ?_
  refine w_callV (M' := mX6_told) (mc' := 0) (ms' := 0) (As := [.int (xs (Int32.toNatClampNeg (i + 1)))]) dL_law_996 gL_law_X6_told okX6_told rfl rfl hr2 rfl (Nat.le_of_ble_eq_true rfl) (Nat.le_of_ble_eq_true rfl) (Nat.le_refl _) (by omega) (by omega) ?_
  refine hR _ (fun h8 hi8 => ?_)
  show xW _ _ _ _ _ _ _ _ _ _ _ _ _ _
  refine w_icmp_eq (tgt := 1004) dL_law_999 (by decide) (fun _ => ?_) (fun z => absurd rfl z)
  exact xW.wd (by omega) (by omega) (kk h8 hi8)
end ZL2
