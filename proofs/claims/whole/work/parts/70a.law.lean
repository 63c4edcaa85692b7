/-! THE LAW: its cases -/
/-- the law, whatever its name -/
abbrev mL9 (nm : String) : xM := (⟨RL, nm, "([I)Z"⟩, cL_law, 4, some .boolean, wsL_law)
theorem z_cmp (x : Int64) : lg_cmp x x = 0 := by
  unfold lg_cmp
  simp
section ZL0
variable {P : State → Prop} {G : xG} {l : Launch} {b sl sc sm k n : Nat} {xs : Nat → Int32} {i : Int32} {nm : String} {h : xH} {Q : Option Value → xH → Prop}
set_option maxHeartbeats 4000000 in
theorem kL_canvas (hs : ∀ s : State, P s → xK G s → va_T .int b sl (fun j => .int (xs j)) (fun q => xB G ≤ q) s (xH0 G)) (h1 : vp_in (i + 1) sl) (h2 : vp_in (i + 2) sl) (h3 : vp_in (i + 3) sl) (h4 : vp_in (i + 4) sl) (hT3 : xT3 G < xB G) (hi : zInv G sc sm h) (hk : k + 9 ≤ 600000) (hn : n + 1400 ≤ 7302250) (kk : ∀ h8, zInv G sc sm h8 → xW P G l (mL9 nm) 11 600000 7302250 (k + 9) (n + 1400) 1004 [.ref b, .ref sc, .ref sm, .int i] [] h8 Q) : xW P G l (mL9 nm) 11 600000 7302250 k n 148 [.ref b, .ref sc, .ref sm, .int i] [] h Q := by
  refine w_aload_n dL_law_148 rfl ?_
  refine w_aload_n dL_law_149 rfl ?_
  refine w_iload_n dL_law_150 rfl ?_
  refine w_iconst (v := 1) dL_law_151 (by decide) ?_
  refine w_iadd dL_law_152 ?_
  refine w_tld dL_law_153 hs h1 ?_
  refine w_aload_n dL_law_154 rfl ?_
  refine w_iload_n dL_law_155 rfl ?_
  refine w_iconst (v := 2) dL_law_156 (by decide) ?_
  refine w_iadd dL_law_157 ?_
  refine w_tld dL_law_158 hs h2 ?_
  obtain ⟨fs, hrc⟩ := hi.rc
  refine w_callV (M' := mX5_canvas) (mc' := 0) (ms' := 0) (As := [.int (xs (Int32.toNatClampNeg (i + 1))), .int (xs (Int32.toNatClampNeg (i + 2)))]) dL_law_159 gL_law_X5_canvas okX5_canvas rfl rfl hrc rfl (Nat.le_of_ble_eq_true rfl) (Nat.le_of_ble_eq_true rfl) (Nat.le_refl _) (by omega) (by omega) ?_
  refine zc_canvas hi (fun v h9 hR => ?_)
  obtain ⟨⟨fs2, hr2⟩, hR⟩ := hR
  show xW _ _ _ _ _ _ _ _ _ _ _ _ _ _
  refine w_aload_n dL_law_162 rfl ?_
  refine w_aload_n dL_law_163 rfl ?_
  refine w_iload_n dL_law_164 rfl ?_
  refine w_iconst (v := 1) dL_law_165 (by decide) ?_
  refine w_iadd dL_law_166 ?_
  refine w_tld dL_law_167 hs h1 ?_
  refine w_aload_n dL_law_168 rfl ?_
  refine w_iload_n dL_law_169 rfl ?_
  refine w_iconst (v := 2) dL_law_170 (by decide) ?_
  refine w_iadd dL_law_171 ?_
  refine w_tld dL_law_172 hs h2 ?_
  refine w_callV (M' := mX6_canvas) (mc' := 0) (ms' := 0) (As := [.int (xs (Int32.toNatClampNeg (i + 1))), .int (xs (Int32.toNatClampNeg (i + 2)))]) dL_law_173 gL_law_X6_canvas okX6_canvas rfl rfl hr2 rfl (Nat.le_of_ble_eq_true rfl) (Nat.le_of_ble_eq_true rfl) (Nat.le_refl _) (by omega) (by omega) ?_
  refine hR _ (fun h8 hi8 => ?_)
  show xW _ _ _ _ _ _ _ _ _ _ _ _ _ _
  refine w_icmp_eq (tgt := 1004) dL_law_176 (by decide) (fun _ => ?_) (fun z => absurd rfl z)
  exact xW.wd (by omega) (by omega) (kk h8 hi8)
set_option maxHeartbeats 4000000 in
theorem kL_scale (hs : ∀ s : State, P s → xK G s → va_T .int b sl (fun j => .int (xs j)) (fun q => xB G ≤ q) s (xH0 G)) (h1 : vp_in (i + 1) sl) (h2 : vp_in (i + 2) sl) (h3 : vp_in (i + 3) sl) (h4 : vp_in (i + 4) sl) (hT3 : xT3 G < xB G) (hi : zInv G sc sm h) (hk : k + 9 ≤ 600000) (hn : n + 1400 ≤ 7302250) (kk : ∀ h8, zInv G sc sm h8 → xW P G l (mL9 nm) 11 600000 7302250 (k + 9) (n + 1400) 1004 [.ref b, .ref sc, .ref sm, .int i] [] h8 Q) : xW P G l (mL9 nm) 11 600000 7302250 k n 181 [.ref b, .ref sc, .ref sm, .int i] [] h Q := by
  refine w_aload_n dL_law_181 rfl ?_
  refine w_aload_n dL_law_182 rfl ?_
  refine w_iload_n dL_law_183 rfl ?_
  refine w_iconst (v := 1) dL_law_184 (by decide) ?_
  refine w_iadd dL_law_185 ?_
  refine w_tld dL_law_186 hs h1 ?_
  refine w_aload_n dL_law_187 rfl ?_
  refine w_iload_n dL_law_188 rfl ?_
  refine w_iconst (v := 2) dL_law_189 (by decide) ?_
  refine w_iadd dL_law_190 ?_
  refine w_tld dL_law_191 hs h2 ?_
  refine w_aload_n dL_law_192 rfl ?_
  refine w_iload_n dL_law_193 rfl ?_
  refine w_iconst (v := 3) dL_law_194 (by decide) ?_
  refine w_iadd dL_law_195 ?_
  refine w_tld dL_law_196 hs h3 ?_
  refine w_aload_n dL_law_197 rfl ?_
  refine w_iload_n dL_law_198 rfl ?_
  refine w_iconst (v := 4) dL_law_199 (by decide) ?_
  refine w_iadd dL_law_200 ?_
  refine w_tld dL_law_201 hs h4 ?_
  obtain ⟨fs, hrc⟩ := hi.rc
  refine w_callV (M' := mX5_scale) (mc' := 0) (ms' := 0) (As := [.int (xs (Int32.toNatClampNeg (i + 1))), .int (xs (Int32.toNatClampNeg (i + 2))), .int (xs (Int32.toNatClampNeg (i + 3))), .int (xs (Int32.toNatClampNeg (i + 4)))]) dL_law_202 gL_law_X5_scale okX5_scale rfl rfl hrc rfl (Nat.le_of_ble_eq_true rfl) (Nat.le_of_ble_eq_true rfl) (Nat.le_refl _) (by omega) (by omega) ?_
  refine zc_scale hi (fun v h9 hR => ?_)
  obtain ⟨⟨fs2, hr2⟩, hR⟩ := hR
  show xW _ _ _ _ _ _ _ _ _ _ _ _ _ _
  refine w_aload_n dL_law_205 rfl ?_
  refine w_aload_n dL_law_206 rfl ?_
  refine w_iload_n dL_law_207 rfl ?_
  refine w_iconst (v := 1) dL_law_208 (by decide) ?_
  refine w_iadd dL_law_209 ?_
  refine w_tld dL_law_210 hs h1 ?_
  refine w_aload_n dL_law_211 rfl ?_
  refine w_iload_n dL_law_212 rfl ?_
  refine w_iconst (v := 2) dL_law_213 (by decide) ?_
  refine w_iadd dL_law_214 ?_
  refine w_tld dL_law_215 hs h2 ?_
  refine w_aload_n dL_law_216 rfl ?_
  refine w_iload_n dL_law_217 rfl ?_
  refine w_iconst (v := 3) dL_law_218 (by decide) ?_
  refine w_iadd dL_law_219 ?_
  refine w_tld dL_law_220 hs h3 ?_
  refine w_aload_n dL_law_221 rfl ?_
  refine w_iload_n dL_law_222 rfl ?_
  refine w_iconst (v := 4) dL_law_223 (by decide) ?_
  refine w_iadd dL_law_224 ?_
  refine w_tld dL_law_225 hs h4 ?_
  refine w_callV (M' := mX6_scale) (mc' := 0) (ms' := 0) (As := [.int (xs (Int32.toNatClampNeg (i + 1))), .int (xs (Int32.toNatClampNeg (i + 2))), .int (xs (Int32.toNatClampNeg (i + 3))), .int (xs (Int32.toNatClampNeg (i + 4)))]) dL_law_226 gL_law_X6_scale okX6_scale rfl rfl hr2 rfl (Nat.le_of_ble_eq_true rfl) (Nat.le_of_ble_eq_true rfl) (Nat.le_refl _) (by omega) (by omega) ?_
  refine hR _ (fun h8 hi8 => ?_)
  show xW _ _ _ _ _ _ _ _ _ _ _ _ _ _
  refine w_icmp_eq (tgt := 1004) dL_law_229 (by decide) (fun _ => ?_) (fun z => absurd rfl z)
  exact xW.wd (by omega) (by omega) (kk h8 hi8)
set_option maxHeartbeats 4000000 in
theorem kL_cut (hs : ∀ s : State, P s → xK G s → va_T .int b sl (fun j => .int (xs j)) (fun q => xB G ≤ q) s (xH0 G)) (h1 : vp_in (i + 1) sl) (h2 : vp_in (i + 2) sl) (h3 : vp_in (i + 3) sl) (h4 : vp_in (i + 4) sl) (hT3 : xT3 G < xB G) (hi : zInv G sc sm h) (hk : k + 9 ≤ 600000) (hn : n + 1400 ≤ 7302250) (kk : ∀ h8, zInv G sc sm h8 → xW P G l (mL9 nm) 11 600000 7302250 (k + 9) (n + 1400) 1004 [.ref b, .ref sc, .ref sm, .int i] [] h8 Q) : xW P G l (mL9 nm) 11 600000 7302250 k n 234 [.ref b, .ref sc, .ref sm, .int i] [] h Q := by
  refine w_aload_n dL_law_234 rfl ?_
  refine w_aload_n dL_law_235 rfl ?_
  refine w_iload_n dL_law_236 rfl ?_
  refine w_iconst (v := 1) dL_law_237 (by decide) ?_
  refine w_iadd dL_law_238 ?_
  refine w_tld dL_law_239 hs h1 ?_
  refine w_aload_n dL_law_240 rfl ?_
  refine w_iload_n dL_law_241 rfl ?_
  refine w_iconst (v := 2) dL_law_242 (by decide) ?_
  refine w_iadd dL_law_243 ?_
  refine w_tld dL_law_244 hs h2 ?_
  refine w_aload_n dL_law_245 rfl ?_
  refine w_iload_n dL_law_246 rfl ?_
  refine w_iconst (v := 3) dL_law_247 (by decide) ?_
  refine w_iadd dL_law_248 ?_
  refine w_tld dL_law_249 hs h3 ?_
  obtain ⟨fs, hrc⟩ := hi.rc
  refine w_callV (M' := mX5_cut) (mc' := 0) (ms' := 0) (As := [.int (xs (Int32.toNatClampNeg (i + 1))), .int (xs (Int32.toNatClampNeg (i + 2))), .int (xs (Int32.toNatClampNeg (i + 3)))]) dL_law_250 gL_law_X5_cut okX5_cut rfl rfl hrc rfl (Nat.le_of_ble_eq_true rfl) (Nat.le_of_ble_eq_true rfl) (Nat.le_refl _) (by omega) (by omega) ?_
  refine zc_cut hi (fun v h9 hR => ?_)
  obtain ⟨⟨fs2, hr2⟩, hR⟩ := hR
  show xW _ _ _ _ _ _ _ _ _ _ _ _ _ _
  refine w_aload_n dL_law_253 rfl ?_
  refine w_aload_n dL_law_254 rfl ?_
  refine w_iload_n dL_law_255 rfl ?_
  refine w_iconst (v := 1) dL_law_256 (by decide) ?_
  refine w_iadd dL_law_257 ?_
  refine w_tld dL_law_258 hs h1 ?_
  refine w_aload_n dL_law_259 rfl ?_
  refine w_iload_n dL_law_260 rfl ?_
  refine w_iconst (v := 2) dL_law_261 (by decide) ?_
  refine w_iadd dL_law_262 ?_
  refine w_tld dL_law_263 hs h2 ?_
  refine w_aload_n dL_law_264 rfl ?_
  refine w_iload_n dL_law_265 rfl ?_
  refine w_iconst (v := 3) dL_law_266 (by decide) ?_
  refine w_iadd dL_law_267 ?_
  refine w_tld dL_law_268 hs h3 ?_
  refine w_callV (M' := mX6_cut) (mc' := 0) (ms' := 0) (As := [.int (xs (Int32.toNatClampNeg (i + 1))), .int (xs (Int32.toNatClampNeg (i + 2))), .int (xs (Int32.toNatClampNeg (i + 3)))]) dL_law_269 gL_law_X6_cut okX6_cut rfl rfl hr2 rfl (Nat.le_of_ble_eq_true rfl) (Nat.le_of_ble_eq_true rfl) (Nat.le_refl _) (by omega) (by omega) ?_
  refine hR _ (fun h8 hi8 => ?_)
  show xW _ _ _ _ _ _ _ _ _ _ _ _ _ _
  refine w_icmp_eq (tgt := 1004) dL_law_272 (by decide) (fun _ => ?_) (fun z => absurd rfl z)
  exact xW.wd (by omega) (by omega) (kk h8 hi8)
set_option maxHeartbeats 4000000 in
theorem kL_fit (hs : ∀ s : State, P s → xK G s → va_T .int b sl (fun j => .int (xs j)) (fun q => xB G ≤ q) s (xH0 G)) (h1 : vp_in (i + 1) sl) (h2 : vp_in (i + 2) sl) (h3 : vp_in (i + 3) sl) (h4 : vp_in (i + 4) sl) (hT3 : xT3 G < xB G) (hi : zInv G sc sm h) (hk : k + 9 ≤ 600000) (hn : n + 1400 ≤ 7302250) (kk : ∀ h8, zInv G sc sm h8 → xW P G l (mL9 nm) 11 600000 7302250 (k + 9) (n + 1400) 1004 [.ref b, .ref sc, .ref sm, .int i] [] h8 Q) : xW P G l (mL9 nm) 11 600000 7302250 k n 277 [.ref b, .ref sc, .ref sm, .int i] [] h Q := by
  refine w_aload_n dL_law_277 rfl ?_
  refine w_aload_n dL_law_278 rfl ?_
  refine w_iload_n dL_law_279 rfl ?_
  refine w_iconst (v := 1) dL_law_280 (by decide) ?_
  refine w_iadd dL_law_281 ?_
  refine w_tld dL_law_282 hs h1 ?_
  obtain ⟨fs, hrc⟩ := hi.rc
  refine w_callV (M' := mX5_fit) (mc' := 0) (ms' := 0) (As := [.int (xs (Int32.toNatClampNeg (i + 1)))]) dL_law_283 gL_law_X5_fit okX5_fit rfl rfl hrc rfl (Nat.le_of_ble_eq_true rfl) (Nat.le_of_ble_eq_true rfl) (Nat.le_refl _) (by omega) (by omega) ?_
  refine zc_fit hi (fun v h9 hR => ?_)
  obtain ⟨⟨fs2, hr2⟩, hR⟩ := hR
  show xW _ _ _ _ _ _ _ _ _ _ _ _ _ _
  refine w_aload_n dL_law_286 rfl ?_
  refine w_aload_n dL_law_287 rfl ?_
  refine w_iload_n dL_law_288 rfl ?_
  refine w_iconst (v := 1) dL_law_289 (by decide) ?_
  refine w_iadd dL_law_290 ?_
  refine w_tld dL_law_291 hs h1 ?_
  refine w_callV (M' := mX6_fit) (mc' := 0) (ms' := 0) (As := [.int (xs (Int32.toNatClampNeg (i + 1)))]) dL_law_292 gL_law_X6_fit okX6_fit rfl rfl hr2 rfl (Nat.le_of_ble_eq_true rfl) (Nat.le_of_ble_eq_true rfl) (Nat.le_refl _) (by omega) (by omega) ?_
  refine hR _ (fun h8 hi8 => ?_)
  show xW _ _ _ _ _ _ _ _ _ _ _ _ _ _
  refine w_icmp_eq (tgt := 1004) dL_law_295 (by decide) (fun _ => ?_) (fun z => absurd rfl z)
  exact xW.wd (by omega) (by omega) (kk h8 hi8)
set_option maxHeartbeats 4000000 in
theorem kL_place (hs : ∀ s : State, P s → xK G s → va_T .int b sl (fun j => .int (xs j)) (fun q => xB G ≤ q) s (xH0 G)) (h1 : vp_in (i + 1) sl) (h2 : vp_in (i + 2) sl) (h3 : vp_in (i + 3) sl) (h4 : vp_in (i + 4) sl) (hT3 : xT3 G < xB G) (hi : zInv G sc sm h) (hk : k + 9 ≤ 600000) (hn : n + 1400 ≤ 7302250) (kk : ∀ h8, zInv G sc sm h8 → xW P G l (mL9 nm) 11 600000 7302250 (k + 9) (n + 1400) 1004 [.ref b, .ref sc, .ref sm, .int i] [] h8 Q) : xW P G l (mL9 nm) 11 600000 7302250 k n 300 [.ref b, .ref sc, .ref sm, .int i] [] h Q := by
  refine w_aload_n dL_law_300 rfl ?_
  refine w_aload_n dL_law_301 rfl ?_
  refine w_iload_n dL_law_302 rfl ?_
  refine w_iconst (v := 1) dL_law_303 (by decide) ?_
  refine w_iadd dL_law_304 ?_
  refine w_tld dL_law_305 hs h1 ?_
  refine w_aload_n dL_law_306 rfl ?_
  refine w_iload_n dL_law_307 rfl ?_
  refine w_iconst (v := 2) dL_law_308 (by decide) ?_
  refine w_iadd dL_law_309 ?_
  refine w_tld dL_law_310 hs h2 ?_
  obtain ⟨fs, hrc⟩ := hi.rc
  refine w_callV (M' := mX5_place) (mc' := 0) (ms' := 0) (As := [.int (xs (Int32.toNatClampNeg (i + 1))), .int (xs (Int32.toNatClampNeg (i + 2)))]) dL_law_311 gL_law_X5_place okX5_place rfl rfl hrc rfl (Nat.le_of_ble_eq_true rfl) (Nat.le_of_ble_eq_true rfl) (Nat.le_refl _) (by omega) (by omega) ?_
  refine zc_place hi (fun v h9 hR => ?_)
  obtain ⟨⟨fs2, hr2⟩, hR⟩ := hR
  show xW _ _ _ _ _ _ _ _ _ _ _ _ _ _
  refine w_aload_n dL_law_314 rfl ?_
  refine w_aload_n dL_law_315 rfl ?_
  refine w_iload_n dL_law_316 rfl ?_
  refine w_iconst (v := 1) dL_law_317 (by decide) ?_
  refine w_iadd dL_law_318 ?_
  refine w_tld dL_law_319 hs h1 ?_
  refine w_aload_n dL_law_320 rfl ?_
  refine w_iload_n dL_law_321 rfl ?_
  refine w_iconst (v := 2) dL_law_322 (by decide) ?_
  refine w_iadd dL_law_323 ?_
  refine w_tld dL_law_324 hs h2 ?_
  refine w_callV (M' := mX6_place) (mc' := 0) (ms' := 0) (As := [.int (xs (Int32.toNatClampNeg (i + 1))), .int (xs (Int32.toNatClampNeg (i + 2)))]) dL_law_325 gL_law_X6_place okX6_place rfl rfl hr2 rfl (Nat.le_of_ble_eq_true rfl) (Nat.le_of_ble_eq_true rfl) (Nat.le_refl _) (by omega) (by omega) ?_
  refine hR _ (fun h8 hi8 => ?_)
  show xW _ _ _ _ _ _ _ _ _ _ _ _ _ _
  refine w_icmp_eq (tgt := 1004) dL_law_328 (by decide) (fun _ => ?_) (fun z => absurd rfl z)
  exact xW.wd (by omega) (by omega) (kk h8 hi8)
set_option maxHeartbeats 4000000 in
theorem kL_value (hs : ∀ s : State, P s → xK G s → va_T .int b sl (fun j => .int (xs j)) (fun q => xB G ≤ q) s (xH0 G)) (h1 : vp_in (i + 1) sl) (h2 : vp_in (i + 2) sl) (h3 : vp_in (i + 3) sl) (h4 : vp_in (i + 4) sl) (hT3 : xT3 G < xB G) (hi : zInv G sc sm h) (hk : k + 9 ≤ 600000) (hn : n + 1400 ≤ 7302250) (kk : ∀ h8, zInv G sc sm h8 → xW P G l (mL9 nm) 11 600000 7302250 (k + 9) (n + 1400) 1004 [.ref b, .ref sc, .ref sm, .int i] [] h8 Q) : xW P G l (mL9 nm) 11 600000 7302250 k n 333 [.ref b, .ref sc, .ref sm, .int i] [] h Q := by
  refine w_aload_n dL_law_333 rfl ?_
  refine w_aload_n dL_law_334 rfl ?_
  refine w_iload_n dL_law_335 rfl ?_
  refine w_iconst (v := 1) dL_law_336 (by decide) ?_
  refine w_iadd dL_law_337 ?_
  refine w_tld dL_law_338 hs h1 ?_
  refine w_aload_n dL_law_339 rfl ?_
  refine w_iload_n dL_law_340 rfl ?_
  refine w_iconst (v := 2) dL_law_341 (by decide) ?_
  refine w_iadd dL_law_342 ?_
  refine w_tld dL_law_343 hs h2 ?_
  obtain ⟨fs, hrc⟩ := hi.rc
  refine w_callV (M' := mX5_value) (mc' := 0) (ms' := 0) (As := [.int (xs (Int32.toNatClampNeg (i + 1))), .int (xs (Int32.toNatClampNeg (i + 2)))]) dL_law_344 gL_law_X5_value okX5_value rfl rfl hrc rfl (Nat.le_of_ble_eq_true rfl) (Nat.le_of_ble_eq_true rfl) (Nat.le_refl _) (by omega) (by omega) ?_
  refine zc_value hi (fun v h9 hR => ?_)
  obtain ⟨⟨fs2, hr2⟩, hR⟩ := hR
  show xW _ _ _ _ _ _ _ _ _ _ _ _ _ _
  refine w_aload_n dL_law_347 rfl ?_
  refine w_aload_n dL_law_348 rfl ?_
  refine w_iload_n dL_law_349 rfl ?_
  refine w_iconst (v := 1) dL_law_350 (by decide) ?_
  refine w_iadd dL_law_351 ?_
  refine w_tld dL_law_352 hs h1 ?_
  refine w_aload_n dL_law_353 rfl ?_
  refine w_iload_n dL_law_354 rfl ?_
  refine w_iconst (v := 2) dL_law_355 (by decide) ?_
  refine w_iadd dL_law_356 ?_
  refine w_tld dL_law_357 hs h2 ?_
  refine w_callV (M' := mX6_value) (mc' := 0) (ms' := 0) (As := [.int (xs (Int32.toNatClampNeg (i + 1))), .int (xs (Int32.toNatClampNeg (i + 2)))]) dL_law_358 gL_law_X6_value okX6_value rfl rfl hr2 rfl (Nat.le_of_ble_eq_true rfl) (Nat.le_of_ble_eq_true rfl) (Nat.le_refl _) (by omega) (by omega) ?_
  refine hR _ (fun h8 hi8 => ?_)
  show xW _ _ _ _ _ _ _ _ _ _ _ _ _ _
  refine w_icmp_eq (tgt := 1004) dL_law_361 (by decide) (fun _ => ?_) (fun z => absurd rfl z)
  exact xW.wd (by omega) (by omega) (kk h8 hi8)
set_option maxHeartbeats 4000000 in
theorem kL_step (hs : ∀ s : State, P s → xK G s → va_T .int b sl (fun j => .int (xs j)) (fun q => xB G ≤ q) s (xH0 G)) (h1 : vp_in (i + 1) sl) (h2 : vp_in (i + 2) sl) (h3 : vp_in (i + 3) sl) (h4 : vp_in (i + 4) sl) (hT3 : xT3 G < xB G) (hi : zInv G sc sm h) (hk : k + 9 ≤ 600000) (hn : n + 1400 ≤ 7302250) (kk : ∀ h8, zInv G sc sm h8 → xW P G l (mL9 nm) 11 600000 7302250 (k + 9) (n + 1400) 1004 [.ref b, .ref sc, .ref sm, .int i] [] h8 Q) : xW P G l (mL9 nm) 11 600000 7302250 k n 366 [.ref b, .ref sc, .ref sm, .int i] [] h Q := by
  refine w_aload_n dL_law_366 rfl ?_
  refine w_aload_n dL_law_367 rfl ?_
  refine w_iload_n dL_law_368 rfl ?_
  refine w_iconst (v := 1) dL_law_369 (by decide) ?_
  refine w_iadd dL_law_370 ?_
  refine w_tld dL_law_371 hs h1 ?_
  refine w_aload_n dL_law_372 rfl ?_
  refine w_iload_n dL_law_373 rfl ?_
  refine w_iconst (v := 2) dL_law_374 (by decide) ?_
  refine w_iadd dL_law_375 ?_
  refine w_tld dL_law_376 hs h2 ?_
  obtain ⟨fs, hrc⟩ := hi.rc
  refine w_callV (M' := mX5_step) (mc' := 0) (ms' := 0) (As := [.int (xs (Int32.toNatClampNeg (i + 1))), .int (xs (Int32.toNatClampNeg (i + 2)))]) dL_law_377 gL_law_X5_step okX5_step rfl rfl hrc rfl (Nat.le_of_ble_eq_true rfl) (Nat.le_of_ble_eq_true rfl) (Nat.le_refl _) (by omega) (by omega) ?_
  refine zc_step hi (fun v h9 hR => ?_)
  obtain ⟨⟨fs2, hr2⟩, hR⟩ := hR
  show xW _ _ _ _ _ _ _ _ _ _ _ _ _ _
  refine w_aload_n dL_law_380 rfl ?_
  refine w_aload_n dL_law_381 rfl ?_
  refine w_iload_n dL_law_382 rfl ?_
  refine w_iconst (v := 1) dL_law_383 (by decide) ?_
  refine w_iadd dL_law_384 ?_
  refine w_tld dL_law_385 hs h1 ?_
  refine w_aload_n dL_law_386 rfl ?_
  refine w_iload_n dL_law_387 rfl ?_
  refine w_iconst (v := 2) dL_law_388 (by decide) ?_
  refine w_iadd dL_law_389 ?_
  refine w_tld dL_law_390 hs h2 ?_
  refine w_callV (M' := mX6_step) (mc' := 0) (ms' := 0) (As := [.int (xs (Int32.toNatClampNeg (i + 1))), .int (xs (Int32.toNatClampNeg (i + 2)))]) dL_law_391 gL_law_X6_step okX6_step rfl rfl hr2 rfl (Nat.le_of_ble_eq_true rfl) (Nat.le_of_ble_eq_true rfl) (Nat.le_refl _) (by omega) (by omega) ?_
  refine hR _ (fun h8 hi8 => ?_)
  show xW _ _ _ _ _ _ _ _ _ _ _ _ _ _
  refine w_icmp_eq (tgt := 1004) dL_law_394 (by decide) (fun _ => ?_) (fun z => absurd rfl z)
  exact xW.wd (by omega) (by omega) (kk h8 hi8)
set_option maxHeartbeats 4000000 in
theorem kL_tick (hs : ∀ s : State, P s → xK G s → va_T .int b sl (fun j => .int (xs j)) (fun q => xB G ≤ q) s (xH0 G)) (h1 : vp_in (i + 1) sl) (h2 : vp_in (i + 2) sl) (h3 : vp_in (i + 3) sl) (h4 : vp_in (i + 4) sl) (hT3 : xT3 G < xB G) (hi : zInv G sc sm h) (hk : k + 9 ≤ 600000) (hn : n + 1400 ≤ 7302250) (kk : ∀ h8, zInv G sc sm h8 → xW P G l (mL9 nm) 11 600000 7302250 (k + 9) (n + 1400) 1004 [.ref b, .ref sc, .ref sm, .int i] [] h8 Q) : xW P G l (mL9 nm) 11 600000 7302250 k n 399 [.ref b, .ref sc, .ref sm, .int i] [] h Q := by
  refine w_aload_n dL_law_399 rfl ?_
  refine w_aload_n dL_law_400 rfl ?_
  refine w_iload_n dL_law_401 rfl ?_
  refine w_iconst (v := 1) dL_law_402 (by decide) ?_
  refine w_iadd dL_law_403 ?_
  refine w_tld dL_law_404 hs h1 ?_
  refine w_aload_n dL_law_405 rfl ?_
  refine w_iload_n dL_law_406 rfl ?_
  refine w_iconst (v := 2) dL_law_407 (by decide) ?_
  refine w_iadd dL_law_408 ?_
  refine w_tld dL_law_409 hs h2 ?_
  refine w_aload_n dL_law_410 rfl ?_
  refine w_iload_n dL_law_411 rfl ?_
  refine w_iconst (v := 3) dL_law_412 (by decide) ?_
  refine w_iadd dL_law_413 ?_
  refine w_tld dL_law_414 hs h3 ?_
  obtain ⟨fs, hrc⟩ := hi.rc
  refine w_callV (M' := mX5_tick) (mc' := 0) (ms' := 0) (As := [.int (xs (Int32.toNatClampNeg (i + 1))), .int (xs (Int32.toNatClampNeg (i + 2))), .int (xs (Int32.toNatClampNeg (i + 3)))]) dL_law_415 gL_law_X5_tick okX5_tick rfl rfl hrc rfl (Nat.le_of_ble_eq_true rfl) (Nat.le_of_ble_eq_true rfl) (Nat.le_refl _) (by omega) (by omega) ?_
  refine zc_tick hi (fun v h9 hR => ?_)
  obtain ⟨⟨fs2, hr2⟩, hR⟩ := hR
  show xW _ _ _ _ _ _ _ _ _ _ _ _ _ _
  refine w_aload_n dL_law_418 rfl ?_
  refine w_aload_n dL_law_419 rfl ?_
  refine w_iload_n dL_law_420 rfl ?_
  refine w_iconst (v := 1) dL_law_421 (by decide) ?_
  refine w_iadd dL_law_422 ?_
  refine w_tld dL_law_423 hs h1 ?_
  refine w_aload_n dL_law_424 rfl ?_
  refine w_iload_n dL_law_425 rfl ?_
  refine w_iconst (v := 2) dL_law_426 (by decide) ?_
  refine w_iadd dL_law_427 ?_
  refine w_tld dL_law_428 hs h2 ?_
  refine w_aload_n dL_law_429 rfl ?_
  refine w_iload_n dL_law_430 rfl ?_
  refine w_iconst (v := 3) dL_law_431 (by decide) ?_
  refine w_iadd dL_law_432 ?_
  refine w_tld dL_law_433 hs h3 ?_
  refine w_callV (M' := mX6_tick) (mc' := 0) (ms' := 0) (As := [.int (xs (Int32.toNatClampNeg (i + 1))), .int (xs (Int32.toNatClampNeg (i + 2))), .int (xs (Int32.toNatClampNeg (i + 3)))]) dL_law_434 gL_law_X6_tick okX6_tick rfl rfl hr2 rfl (Nat.le_of_ble_eq_true rfl) (Nat.le_of_ble_eq_true rfl) (Nat.le_refl _) (by omega) (by omega) ?_
  refine hR _ (fun h8 hi8 => ?_)
  show xW _ _ _ _ _ _ _ _ _ _ _ _ _ _
  refine w_icmp_eq (tgt := 1004) dL_law_437 (by decide) (fun _ => ?_) (fun z => absurd rfl z)
  exact xW.wd (by omega) (by omega) (kk h8 hi8)
set_option maxHeartbeats 4000000 in
theorem kL_series (hs : ∀ s : State, P s → xK G s → va_T .int b sl (fun j => .int (xs j)) (fun q => xB G ≤ q) s (xH0 G)) (h1 : vp_in (i + 1) sl) (h2 : vp_in (i + 2) sl) (h3 : vp_in (i + 3) sl) (h4 : vp_in (i + 4) sl) (hT3 : xT3 G < xB G) (hi : zInv G sc sm h) (hk : k + 9 ≤ 600000) (hn : n + 1400 ≤ 7302250) (kk : ∀ h8, zInv G sc sm h8 → xW P G l (mL9 nm) 11 600000 7302250 (k + 9) (n + 1400) 1004 [.ref b, .ref sc, .ref sm, .int i] [] h8 Q) : xW P G l (mL9 nm) 11 600000 7302250 k n 442 [.ref b, .ref sc, .ref sm, .int i] [] h Q := by
  refine w_aload_n dL_law_442 rfl ?_
  refine w_aload_n dL_law_443 rfl ?_
  refine w_iload_n dL_law_444 rfl ?_
  refine w_iconst (v := 1) dL_law_445 (by decide) ?_
  refine w_iadd dL_law_446 ?_
  refine w_tld dL_law_447 hs h1 ?_
  refine w_aload_n dL_law_448 rfl ?_
  refine w_iload_n dL_law_449 rfl ?_
  refine w_iconst (v := 2) dL_law_450 (by decide) ?_
  refine w_iadd dL_law_451 ?_
  refine w_tld dL_law_452 hs h2 ?_
  refine w_aload_n dL_law_453 rfl ?_
  refine w_iload_n dL_law_454 rfl ?_
  refine w_iconst (v := 3) dL_law_455 (by decide) ?_
  refine w_iadd dL_law_456 ?_
  refine w_tld dL_law_457 hs h3 ?_
  obtain ⟨fs, hrc⟩ := hi.rc
  refine w_callV (M' := mX5_series) (mc' := 9) (ms' := 1400) (As := [.int (xs (Int32.toNatClampNeg (i + 1))), .int (xs (Int32.toNatClampNeg (i + 2))), .int (xs (Int32.toNatClampNeg (i + 3)))]) dL_law_458 gL_law_X5_series okX5_series rfl rfl hrc rfl (Nat.le_of_ble_eq_true rfl) (Nat.le_of_ble_eq_true rfl) (Nat.le_refl _) (by omega) (by omega) ?_
  refine zc_series hT3 hi (fun v h9 hR => ?_)
  obtain ⟨⟨fs2, hr2⟩, hR⟩ := hR
  show xW _ _ _ _ _ _ _ _ _ _ _ _ _ _
  refine w_aload_n dL_law_461 rfl ?_
  refine w_aload_n dL_law_462 rfl ?_
  refine w_iload_n dL_law_463 rfl ?_
  refine w_iconst (v := 1) dL_law_464 (by decide) ?_
  refine w_iadd dL_law_465 ?_
  refine w_tld dL_law_466 hs h1 ?_
  refine w_aload_n dL_law_467 rfl ?_
  refine w_iload_n dL_law_468 rfl ?_
  refine w_iconst (v := 2) dL_law_469 (by decide) ?_
  refine w_iadd dL_law_470 ?_
  refine w_tld dL_law_471 hs h2 ?_
  refine w_aload_n dL_law_472 rfl ?_
  refine w_iload_n dL_law_473 rfl ?_
  refine w_iconst (v := 3) dL_law_474 (by decide) ?_
  refine w_iadd dL_law_475 ?_
  refine w_tld dL_law_476 hs h3 ?_
  refine w_callV (M' := mX6_series) (mc' := 0) (ms' := 0) (As := [.int (xs (Int32.toNatClampNeg (i + 1))), .int (xs (Int32.toNatClampNeg (i + 2))), .int (xs (Int32.toNatClampNeg (i + 3)))]) dL_law_477 gL_law_X6_series okX6_series rfl rfl hr2 rfl (Nat.le_of_ble_eq_true rfl) (Nat.le_of_ble_eq_true rfl) (Nat.le_refl _) (by omega) (by omega) ?_
  refine hR _ (fun h8 hi8 => ?_)
  show xW _ _ _ _ _ _ _ _ _ _ _ _ _ _
  refine w_icmp_eq (tgt := 1004) dL_law_480 (by decide) (fun _ => ?_) (fun z => absurd rfl z)
  exact xW.wd (by omega) (by omega) (kk h8 hi8)
end ZL0
