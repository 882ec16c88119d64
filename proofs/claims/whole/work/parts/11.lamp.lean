set_option maxHeartbeats 4000000 in
set_option maxRecDepth 100000 in
theorem c_Lamp_burn (l : Launch) (dC : Nat → ClassId) (dI : Nat → Nat → Nat) (c1 c2 c3 : ClassId) (A : Nat → Prop) (aC aD aE aL k : Nat) (hk : k < 9) (d : Nat → Int32) (kd ht tk lt : Int32) (rest : va_W) (j : Nat) (hj : j < rest.length) (σ : zS) (x : Int32) : zM l y_Lamp_burn b_Lamp_burn 2 (some (FieldType.int)) 1 22 [.ref aL, .int x] (dC, dI) (t3 c1 c2 c3) A (wl c1 c2 aC aD aE aL k d kd ht tk lt rest j σ) (wl c1 c2 aC aD aE aL k d kd ht tk lt rest j (bLamp d x σ).2) (some (.int (bLamp d x σ).1)) := by
  refine zM_of "CoastLamps$Lamp" rfl (by decide) (Nat.le_of_ble_eq_true rfl) ?_
  intro p e s m below meth c ls E hP hK hD hS hl
  obtain ⟨hx, hb, hml, ho, hts, hr, hlk⟩ := id E
  have hl : lv_has ls 2 [(0, .ref aL), (1, .int x)] := hl
  refine lv_aload_n hx hb d_Lamp_burn_0 rfl (lv_at hl 0 rfl) ?_
  refine zget (ci := k) (fs := [.ref aC, .int kd, .int ht, .int tk, .int σ.1, .int lt]) E hK hP (j + 3) (zg hj) (zC_K hk) 0 (by decide) kw_97 (Or.inl rfl) rfl d_Lamp_burn_1 ?_
  refine lv_iconst (v := 0) hx hb d_Lamp_burn_4 (by decide) ?_
  refine lv_iconst (v := 0) hx hb d_Lamp_burn_5 (by decide) ?_
  refine zcV (As := [.int 0, .int 0]) (rest := []) (ci := 9) E cy_Coast_begins kw_293 kw_294 kw_334 (c_Coast_begins l dC dI c1 c2 c3 A aC aD aE d (rest.set j (wL aC aL k kd ht tk σ.1 lt)) σ.2 0 0 0 (by decide)) hK hP hD hS 0 rfl zC_Coast.1 rfl rfl hl.1 rfl (Nat.le_of_ble_eq_true rfl) ⟨Nat.le_of_ble_eq_true rfl, Nat.le_of_ble_eq_true rfl⟩ d_Lamp_burn_6 ⟨Nat.le_refl _, Nat.le_refl _⟩ (fun H locs hP hD hS => ?_)
  have hP : va_P (dC, dI) classes (wl c1 c2 aC aD aE aL k d kd ht tk lt rest j (σ.1, tb 0 σ.2)) H := hP
  have hD : va_D A (wl c1 c2 aC aD aE aL k d kd ht tk lt rest j (σ.1, tb 0 σ.2)) := hD
  refine lv_aload_n hx hb d_Lamp_burn_9 rfl (lv_at hl 0 rfl) ?_
  refine lv_dup hx hb d_Lamp_burn_10 rfl ?_
  refine zget (ci := k) (fs := [.ref aC, .int kd, .int ht, .int tk, .int σ.1, .int lt]) E hK hP (j + 3) (zg hj) (zC_K hk) 4 (by decide) kw_128 (Or.inl rfl) rfl d_Lamp_burn_11 ?_
  refine lv_iload_n hx hb d_Lamp_burn_14 rfl (lv_at hl 1 rfl) ?_
  refine lv_iadd hx hb d_Lamp_burn_15 ?_
  refine zput (ci := k) (fs := [.ref aC, .int kd, .int ht, .int tk, .int σ.1, .int lt]) (ty := .int) (v := .int (σ.1 + x)) (ws2 := wl c1 c2 aC aD aE aL k d kd ht tk lt rest j (σ.1 + x, tb 0 σ.2)) E hK hP hD hS (j + 3) (zg hj) (zC_K hk) t_Lamp o_Lamp n_Lamp 4 (by decide) kw_128 (Or.inl rfl) rfl rfl rfl rfl (Nat.le_of_ble_eq_true rfl) d_Lamp_burn_16 (zs) (fun H locs hP hD hS => ?_)
  refine lv_iload_n hx hb d_Lamp_burn_19 rfl (lv_at hl 1 rfl) ?_
  refine lv_aload_n hx hb d_Lamp_burn_20 rfl (lv_at hl 0 rfl) ?_
  refine zget (ci := k) (fs := [.ref aC, .int kd, .int ht, .int tk, .int (σ.1 + x), .int lt]) E hK hP (j + 3) (zg hj) (zC_K hk) 0 (by decide) kw_97 (Or.inl rfl) rfl d_Lamp_burn_21 ?_
  refine lv_iconst (v := 0) hx hb d_Lamp_burn_24 (by decide) ?_
  refine zcV (As := [.int 0]) (rest := [.int x]) (ci := 9) E cy_Coast_dialed kw_73 kw_74 kw_335 (c_Coast_dialed l dC dI c1 c2 c3 A aC aD aE d (rest.set j (wL aC aL k kd ht tk (σ.1 + x) lt)) (tb 0 σ.2) 0 0 (by decide) (by decide)) hK hP hD hS 0 rfl zC_Coast.1 rfl rfl hl.1 rfl (Nat.le_of_ble_eq_true rfl) ⟨Nat.le_of_ble_eq_true rfl, Nat.le_of_ble_eq_true rfl⟩ d_Lamp_burn_25 ⟨Nat.le_refl _, Nat.le_refl _⟩ (fun H locs hP hD hS => ?_)
  have hP : va_P (dC, dI) classes (wl c1 c2 aC aD aE aL k d kd ht tk lt rest j (σ.1 + x, tb 0 σ.2)) H := hP
  have hD : va_D A (wl c1 c2 aC aD aE aL k d kd ht tk lt rest j (σ.1 + x, tb 0 σ.2)) := hD
  refine lv_imul hx hb d_Lamp_burn_28 ?_
  refine lv_iconst (v := 1) hx hb d_Lamp_burn_29 (by decide) ?_
  refine lv_iadd hx hb d_Lamp_burn_30 ?_
  exact zri E hK hP hD hS d_Lamp_burn_31
set_option maxHeartbeats 4000000 in
set_option maxRecDepth 100000 in
theorem c_Oil_burn (l : Launch) (dC : Nat → ClassId) (dI : Nat → Nat → Nat) (c1 c2 c3 : ClassId) (A : Nat → Prop) (aC aD aE aL k : Nat) (hk : k < 9) (d : Nat → Int32) (kd ht tk lt : Int32) (rest : va_W) (j : Nat) (hj : j < rest.length) (σ : zS) (x : Int32) : zM l y_Oil_burn b_Oil_burn 3 (some (FieldType.int)) 2 43 [.ref aL, .int x] (dC, dI) (t3 c1 c2 c3) A (wl c1 c2 aC aD aE aL k d kd ht tk lt rest j σ) (wl c1 c2 aC aD aE aL k d kd ht tk lt rest j (bOil d x σ).2) (some (.int (bOil d x σ).1)) := by
  refine zM_of "CoastLamps$Oil" rfl (by decide) (Nat.le_of_ble_eq_true rfl) ?_
  intro p e s m below meth c ls E hP hK hD hS hl
  obtain ⟨hx, hb, hml, ho, hts, hr, hlk⟩ := id E
  have hl : lv_has ls 3 [(0, .ref aL), (1, .int x)] := hl
  refine lv_aload_n hx hb d_Oil_burn_0 rfl (lv_at hl 0 rfl) ?_
  refine zget (ci := k) (fs := [.ref aC, .int kd, .int ht, .int tk, .int σ.1, .int lt]) E hK hP (j + 3) (zg hj) (zC_K hk) 0 (by decide) kw_98 (Or.inr kw_99) rfl d_Oil_burn_1 ?_
  refine lv_iconst (v := 1) hx hb d_Oil_burn_4 (by decide) ?_
  refine lv_iconst (v := 0) hx hb d_Oil_burn_5 (by decide) ?_
  refine zcV (As := [.int 1, .int 0]) (rest := []) (ci := 9) E cy_Coast_begins kw_293 kw_294 kw_308 (c_Coast_begins l dC dI c1 c2 c3 A aC aD aE d (rest.set j (wL aC aL k kd ht tk σ.1 lt)) σ.2 1 0 10 (by decide)) hK hP hD hS 0 rfl zC_Coast.1 rfl rfl hl.1 rfl (Nat.le_of_ble_eq_true rfl) ⟨Nat.le_of_ble_eq_true rfl, Nat.le_of_ble_eq_true rfl⟩ d_Oil_burn_6 ⟨Nat.le_refl _, Nat.le_refl _⟩ (fun H locs hP hD hS => ?_)
  have hP : va_P (dC, dI) classes (wl c1 c2 aC aD aE aL k d kd ht tk lt rest j (σ.1, tb 10 σ.2)) H := hP
  have hD : va_D A (wl c1 c2 aC aD aE aL k d kd ht tk lt rest j (σ.1, tb 10 σ.2)) := hD
  refine lv_aload_n hx hb d_Oil_burn_9 rfl (lv_at hl 0 rfl) ?_
  refine lv_iload_n hx hb d_Oil_burn_10 rfl (lv_at hl 1 rfl) ?_
  refine zcP (x := ⟨"CoastLamps$Lamp", "burn", "(I)I"⟩) (As := [.int x]) (rest := []) (ci := k) E cy_Lamp_burn kw_287 kw_288 ⟨rfl, rfl, by decide⟩ kw_146 (fun a1 g1 h1 h2 => by cases h1.symm.trans h2; simp [Vm.isSubclass, Vm.isSubclassAux]) kw_309 (c_Lamp_burn l dC dI c1 c2 c3 A aC aD aE aL k hk d kd ht tk lt rest j hj (σ.1, tb 10 σ.2) x) hK hP hD hS (j + 3) (zg hj) (zC_K hk).1 rfl hl.1 rfl (Nat.le_of_ble_eq_true rfl) ⟨Nat.le_of_ble_eq_true rfl, Nat.le_of_ble_eq_true rfl⟩ d_Oil_burn_11 ⟨Nat.le_refl _, Nat.le_refl _⟩ (fun H locs hP hD hS => ?_)
  have hP : va_P (dC, dI) classes (wl c1 c2 aC aD aE aL k d kd ht tk lt rest j ((bLamp d x (σ.1, tb 10 σ.2)).2)) H := hP
  have hD : va_D A (wl c1 c2 aC aD aE aL k d kd ht tk lt rest j ((bLamp d x (σ.1, tb 10 σ.2)).2)) := hD
  refine lv_istore_n (lv' := [(2, .int ((bLamp d x (σ.1, tb 10 σ.2)).1)), (0, .ref aL), (1, .int x)]) hx hb d_Oil_burn_14 rfl hl (by decide) rfl (fun ls hl => ?_)
  refine lv_iload_n hx hb d_Oil_burn_15 rfl (lv_at hl 0 rfl) ?_
  refine lv_aload_n hx hb d_Oil_burn_16 rfl (lv_at hl 1 rfl) ?_
  refine zget (ci := k) (fs := [.ref aC, .int kd, .int ht, .int tk, .int (((bLamp d x (σ.1, tb 10 σ.2)).2).1), .int lt]) E hK hP (j + 3) (zg hj) (zC_K hk) 4 (by decide) kw_126 (Or.inr kw_127) rfl d_Oil_burn_17 ?_
  refine lv_bipush (v := 50) hx hb d_Oil_burn_20 (by decide) ?_
  refine lv_idiv hx hb d_Oil_burn_22 (by decide) ?_
  refine lv_iadd hx hb d_Oil_burn_23 ?_
  exact zri E hK hP hD hS d_Oil_burn_24
set_option maxHeartbeats 4000000 in
set_option maxRecDepth 100000 in
theorem c_Twin_burn (l : Launch) (dC : Nat → ClassId) (dI : Nat → Nat → Nat) (c1 c2 c3 : ClassId) (A : Nat → Prop) (aC aD aE aL k : Nat) (hk : k < 9) (d : Nat → Int32) (kd ht tk lt : Int32) (rest : va_W) (j : Nat) (hj : j < rest.length) (σ : zS) (x : Int32) : zM l y_Twin_burn b_Twin_burn 3 (some (FieldType.int)) 3 65 [.ref aL, .int x] (dC, dI) (t3 c1 c2 c3) A (wl c1 c2 aC aD aE aL k d kd ht tk lt rest j σ) (wl c1 c2 aC aD aE aL k d kd ht tk lt rest j (bTwin d x σ).2) (some (.int (bTwin d x σ).1)) := by
  refine zM_of "CoastLamps$Twin" rfl (by decide) (Nat.le_of_ble_eq_true rfl) ?_
  intro p e s m below meth c ls E hP hK hD hS hl
  obtain ⟨hx, hb, hml, ho, hts, hr, hlk⟩ := id E
  have hl : lv_has ls 3 [(0, .ref aL), (1, .int x)] := hl
  refine lv_aload_n hx hb d_Twin_burn_0 rfl (lv_at hl 0 rfl) ?_
  refine zget (ci := k) (fs := [.ref aC, .int kd, .int ht, .int tk, .int σ.1, .int lt]) E hK hP (j + 3) (zg hj) (zC_K hk) 0 (by decide) kw_114 (Or.inr kw_115) rfl d_Twin_burn_1 ?_
  refine lv_iconst (v := 3) hx hb d_Twin_burn_4 (by decide) ?_
  refine lv_iconst (v := 0) hx hb d_Twin_burn_5 (by decide) ?_
  refine zcV (As := [.int 3, .int 0]) (rest := []) (ci := 9) E cy_Coast_begins kw_293 kw_294 kw_302 (c_Coast_begins l dC dI c1 c2 c3 A aC aD aE d (rest.set j (wL aC aL k kd ht tk σ.1 lt)) σ.2 3 0 30 (by decide)) hK hP hD hS 0 rfl zC_Coast.1 rfl rfl hl.1 rfl (Nat.le_of_ble_eq_true rfl) ⟨Nat.le_of_ble_eq_true rfl, Nat.le_of_ble_eq_true rfl⟩ d_Twin_burn_6 ⟨Nat.le_refl _, Nat.le_refl _⟩ (fun H locs hP hD hS => ?_)
  have hP : va_P (dC, dI) classes (wl c1 c2 aC aD aE aL k d kd ht tk lt rest j (σ.1, tb 30 σ.2)) H := hP
  have hD : va_D A (wl c1 c2 aC aD aE aL k d kd ht tk lt rest j (σ.1, tb 30 σ.2)) := hD
  refine lv_aload_n hx hb d_Twin_burn_9 rfl (lv_at hl 0 rfl) ?_
  refine lv_iload_n hx hb d_Twin_burn_10 rfl (lv_at hl 1 rfl) ?_
  refine zcP (x := ⟨"CoastLamps$Round", "burn", "(I)I"⟩) (As := [.int x]) (rest := []) (ci := k) E cy_Oil_burn kw_306 kw_304 ⟨rfl, rfl, by decide⟩ kw_172 (fun a1 g1 h1 h2 => z_sub1 (hts _ kw_159) h1 h2) kw_303 (c_Oil_burn l dC dI c1 c2 c3 A aC aD aE aL k hk d kd ht tk lt rest j hj (σ.1, tb 30 σ.2) x) hK hP hD hS (j + 3) (zg hj) (zC_K hk).1 rfl hl.1 rfl (Nat.le_of_ble_eq_true rfl) ⟨Nat.le_of_ble_eq_true rfl, Nat.le_of_ble_eq_true rfl⟩ d_Twin_burn_11 ⟨Nat.le_refl _, Nat.le_refl _⟩ (fun H locs hP hD hS => ?_)
  have hP : va_P (dC, dI) classes (wl c1 c2 aC aD aE aL k d kd ht tk lt rest j ((bOil d x (σ.1, tb 30 σ.2)).2)) H := hP
  have hD : va_D A (wl c1 c2 aC aD aE aL k d kd ht tk lt rest j ((bOil d x (σ.1, tb 30 σ.2)).2)) := hD
  refine lv_istore_n (lv' := [(2, .int ((bOil d x (σ.1, tb 30 σ.2)).1)), (0, .ref aL), (1, .int x)]) hx hb d_Twin_burn_14 rfl hl (by decide) rfl (fun ls hl => ?_)
  refine lv_iload_n hx hb d_Twin_burn_15 rfl (lv_at hl 0 rfl) ?_
  refine lv_aload_n hx hb d_Twin_burn_16 rfl (lv_at hl 1 rfl) ?_
  refine lv_iload_n hx hb d_Twin_burn_17 rfl (lv_at hl 2 rfl) ?_
  refine zcP (x := ⟨"CoastLamps$Round", "burn", "(I)I"⟩) (As := [.int x]) (rest := [.int ((bOil d x (σ.1, tb 30 σ.2)).1)]) (ci := k) E cy_Oil_burn kw_306 kw_304 ⟨rfl, rfl, by decide⟩ kw_172 (fun a1 g1 h1 h2 => z_sub1 (hts _ kw_159) h1 h2) kw_303 (c_Oil_burn l dC dI c1 c2 c3 A aC aD aE aL k hk d kd ht tk lt rest j hj ((bOil d x (σ.1, tb 30 σ.2)).2) x) hK hP hD hS (j + 3) (zg hj) (zC_K hk).1 rfl hl.1 rfl (Nat.le_of_ble_eq_true rfl) ⟨Nat.le_of_ble_eq_true rfl, Nat.le_of_ble_eq_true rfl⟩ d_Twin_burn_18 ⟨Nat.le_refl _, Nat.le_refl _⟩ (fun H locs hP hD hS => ?_)
  have hP : va_P (dC, dI) classes (wl c1 c2 aC aD aE aL k d kd ht tk lt rest j ((bOil d x ((bOil d x (σ.1, tb 30 σ.2)).2)).2)) H := hP
  have hD : va_D A (wl c1 c2 aC aD aE aL k d kd ht tk lt rest j ((bOil d x ((bOil d x (σ.1, tb 30 σ.2)).2)).2)) := hD
  refine lv_iadd hx hb d_Twin_burn_21 ?_
  exact zri E hK hP hD hS d_Twin_burn_22
set_option maxHeartbeats 4000000 in
set_option maxRecDepth 100000 in
theorem c_Swing_burn (l : Launch) (dC : Nat → ClassId) (dI : Nat → Nat → Nat) (c1 c2 c3 : ClassId) (A : Nat → Prop) (aC aD aE aL k : Nat) (hk : k < 9) (d : Nat → Int32) (kd ht tk lt : Int32) (rest : va_W) (j : Nat) (hj : j < rest.length) (σ : zS) (x : Int32) : zM l y_Swing_burn b_Swing_burn 2 (some (FieldType.int)) 4 87 [.ref aL, .int x] (dC, dI) (t3 c1 c2 c3) A (wl c1 c2 aC aD aE aL k d kd ht tk lt rest j σ) (wl c1 c2 aC aD aE aL k d kd ht tk lt rest j (bSwing d x σ).2) (some (.int (bSwing d x σ).1)) := by
  refine zM_of "CoastLamps$Swing" rfl (by decide) (Nat.le_of_ble_eq_true rfl) ?_
  intro p e s m below meth c ls E hP hK hD hS hl
  obtain ⟨hx, hb, hml, ho, hts, hr, hlk⟩ := id E
  have hl : lv_has ls 2 [(0, .ref aL), (1, .int x)] := hl
  refine lv_aload_n hx hb d_Swing_burn_0 rfl (lv_at hl 0 rfl) ?_
  refine zget (ci := k) (fs := [.ref aC, .int kd, .int ht, .int tk, .int σ.1, .int lt]) E hK hP (j + 3) (zg hj) (zC_K hk) 0 (by decide) kw_102 (Or.inr kw_103) rfl d_Swing_burn_1 ?_
  refine lv_iconst (v := 5) hx hb d_Swing_burn_4 (by decide) ?_
  refine lv_iconst (v := 0) hx hb d_Swing_burn_5 (by decide) ?_
  refine zcV (As := [.int 5, .int 0]) (rest := []) (ci := 9) E cy_Coast_begins kw_293 kw_294 kw_328 (c_Coast_begins l dC dI c1 c2 c3 A aC aD aE d (rest.set j (wL aC aL k kd ht tk σ.1 lt)) σ.2 5 0 50 (by decide)) hK hP hD hS 0 rfl zC_Coast.1 rfl rfl hl.1 rfl (Nat.le_of_ble_eq_true rfl) ⟨Nat.le_of_ble_eq_true rfl, Nat.le_of_ble_eq_true rfl⟩ d_Swing_burn_6 ⟨Nat.le_refl _, Nat.le_refl _⟩ (fun H locs hP hD hS => ?_)
  have hP : va_P (dC, dI) classes (wl c1 c2 aC aD aE aL k d kd ht tk lt rest j (σ.1, tb 50 σ.2)) H := hP
  have hD : va_D A (wl c1 c2 aC aD aE aL k d kd ht tk lt rest j (σ.1, tb 50 σ.2)) := hD
  refine lv_aload_n hx hb d_Swing_burn_9 rfl (lv_at hl 0 rfl) ?_
  refine lv_iload_n hx hb d_Swing_burn_10 rfl (lv_at hl 1 rfl) ?_
  refine zcP (x := ⟨"CoastLamps$Drum", "burn", "(I)I"⟩) (As := [.int x]) (rest := []) (ci := k) E cy_Twin_burn kw_300 kw_330 ⟨rfl, rfl, by decide⟩ kw_198 (fun a1 g1 h1 h2 => z_sub1 (hts _ kw_185) h1 h2) kw_329 (c_Twin_burn l dC dI c1 c2 c3 A aC aD aE aL k hk d kd ht tk lt rest j hj (σ.1, tb 50 σ.2) x) hK hP hD hS (j + 3) (zg hj) (zC_K hk).1 rfl hl.1 rfl (Nat.le_of_ble_eq_true rfl) ⟨Nat.le_of_ble_eq_true rfl, Nat.le_of_ble_eq_true rfl⟩ d_Swing_burn_11 ⟨Nat.le_refl _, Nat.le_refl _⟩ (fun H locs hP hD hS => ?_)
  have hP : va_P (dC, dI) classes (wl c1 c2 aC aD aE aL k d kd ht tk lt rest j ((bTwin d x (σ.1, tb 50 σ.2)).2)) H := hP
  have hD : va_D A (wl c1 c2 aC aD aE aL k d kd ht tk lt rest j ((bTwin d x (σ.1, tb 50 σ.2)).2)) := hD
  refine lv_iload_n hx hb d_Swing_burn_14 rfl (lv_at hl 1 rfl) ?_
  refine lv_iconst (v := 2) hx hb d_Swing_burn_15 (by decide) ?_
  refine lv_idiv hx hb d_Swing_burn_16 (by decide) ?_
  refine lv_iadd hx hb d_Swing_burn_17 ?_
  exact zri E hK hP hD hS d_Swing_burn_18
set_option maxHeartbeats 4000000 in
set_option maxRecDepth 100000 in
theorem c_Flare_burn (l : Launch) (dC : Nat → ClassId) (dI : Nat → Nat → Nat) (c1 c2 c3 : ClassId) (A : Nat → Prop) (aC aD aE aL k : Nat) (hk : k < 9) (d : Nat → Int32) (kd ht tk lt : Int32) (rest : va_W) (j : Nat) (hj : j < rest.length) (σ : zS) (x : Int32) : zM l y_Flare_burn b_Flare_burn 2 (some (FieldType.int)) 2 43 [.ref aL, .int x] (dC, dI) (t3 c1 c2 c3) A (wl c1 c2 aC aD aE aL k d kd ht tk lt rest j σ) (wl c1 c2 aC aD aE aL k d kd ht tk lt rest j (bFlare d x σ).2) (some (.int (bFlare d x σ).1)) := by
  refine zM_of "CoastLamps$Flare" rfl (by decide) (Nat.le_of_ble_eq_true rfl) ?_
  intro p e s m below meth c ls E hP hK hD hS hl
  obtain ⟨hx, hb, hml, ho, hts, hr, hlk⟩ := id E
  have hl : lv_has ls 2 [(0, .ref aL), (1, .int x)] := hl
  refine lv_aload_n hx hb d_Flare_burn_0 rfl (lv_at hl 0 rfl) ?_
  refine zget (ci := k) (fs := [.ref aC, .int kd, .int ht, .int tk, .int σ.1, .int lt]) E hK hP (j + 3) (zg hj) (zC_K hk) 0 (by decide) kw_112 (Or.inr kw_113) rfl d_Flare_burn_1 ?_
  refine lv_bipush (v := 7) hx hb d_Flare_burn_4 (by decide) ?_
  refine lv_iconst (v := 0) hx hb d_Flare_burn_6 (by decide) ?_
  refine zcV (As := [.int 7, .int 0]) (rest := []) (ci := 9) E cy_Coast_begins kw_293 kw_294 kw_292 (c_Coast_begins l dC dI c1 c2 c3 A aC aD aE d (rest.set j (wL aC aL k kd ht tk σ.1 lt)) σ.2 7 0 70 (by decide)) hK hP hD hS 0 rfl zC_Coast.1 rfl rfl hl.1 rfl (Nat.le_of_ble_eq_true rfl) ⟨Nat.le_of_ble_eq_true rfl, Nat.le_of_ble_eq_true rfl⟩ d_Flare_burn_7 ⟨Nat.le_refl _, Nat.le_refl _⟩ (fun H locs hP hD hS => ?_)
  have hP : va_P (dC, dI) classes (wl c1 c2 aC aD aE aL k d kd ht tk lt rest j (σ.1, tb 70 σ.2)) H := hP
  have hD : va_D A (wl c1 c2 aC aD aE aL k d kd ht tk lt rest j (σ.1, tb 70 σ.2)) := hD
  refine lv_aload_n hx hb d_Flare_burn_10 rfl (lv_at hl 0 rfl) ?_
  refine lv_iload_n hx hb d_Flare_burn_11 rfl (lv_at hl 1 rfl) ?_
  refine lv_iconst (v := 2) hx hb d_Flare_burn_12 (by decide) ?_
  refine lv_idiv hx hb d_Flare_burn_13 (by decide) ?_
  refine zcP (x := ⟨"CoastLamps$Gas", "burn", "(I)I"⟩) (As := [.int (x / 2)]) (rest := []) (ci := k) E cy_Lamp_burn kw_287 kw_297 ⟨rfl, rfl, by decide⟩ kw_224 (fun a1 g1 h1 h2 => z_sub1 (hts _ kw_211) h1 h2) kw_296 (c_Lamp_burn l dC dI c1 c2 c3 A aC aD aE aL k hk d kd ht tk lt rest j hj (σ.1, tb 70 σ.2) (x / 2)) hK hP hD hS (j + 3) (zg hj) (zC_K hk).1 rfl hl.1 rfl (Nat.le_of_ble_eq_true rfl) ⟨Nat.le_of_ble_eq_true rfl, Nat.le_of_ble_eq_true rfl⟩ d_Flare_burn_14 ⟨Nat.le_refl _, Nat.le_refl _⟩ (fun H locs hP hD hS => ?_)
  have hP : va_P (dC, dI) classes (wl c1 c2 aC aD aE aL k d kd ht tk lt rest j ((bLamp d (x / 2) (σ.1, tb 70 σ.2)).2)) H := hP
  have hD : va_D A (wl c1 c2 aC aD aE aL k d kd ht tk lt rest j ((bLamp d (x / 2) (σ.1, tb 70 σ.2)).2)) := hD
  exact zri E hK hP hD hS d_Flare_burn_17
set_option maxHeartbeats 4000000 in
set_option maxRecDepth 100000 in
theorem c_Outer_burn (l : Launch) (dC : Nat → ClassId) (dI : Nat → Nat → Nat) (c1 c2 c3 : ClassId) (A : Nat → Prop) (aC aD aE aL k : Nat) (hk : k < 9) (d : Nat → Int32) (kd ht tk lt : Int32) (rest : va_W) (j : Nat) (hj : j < rest.length) (σ : zS) (x : Int32) : zM l y_Outer_burn b_Outer_burn 2 (some (FieldType.int)) 3 64 [.ref aL, .int x] (dC, dI) (t3 c1 c2 c3) A (wl c1 c2 aC aD aE aL k d kd ht tk lt rest j σ) (wl c1 c2 aC aD aE aL k d kd ht tk lt rest j (bOuter d x σ).2) (some (.int (bOuter d x σ).1)) := by
  refine zM_of "CoastLamps$Outer" rfl (by decide) (Nat.le_of_ble_eq_true rfl) ?_
  intro p e s m below meth c ls E hP hK hD hS hl
  obtain ⟨hx, hb, hml, ho, hts, hr, hlk⟩ := id E
  have hl : lv_has ls 2 [(0, .ref aL), (1, .int x)] := hl
  refine lv_aload_n hx hb d_Outer_burn_0 rfl (lv_at hl 0 rfl) ?_
  refine zget (ci := k) (fs := [.ref aC, .int kd, .int ht, .int tk, .int σ.1, .int lt]) E hK hP (j + 3) (zg hj) (zC_K hk) 0 (by decide) kw_100 (Or.inr kw_101) rfl d_Outer_burn_1 ?_
  refine lv_bipush (v := 9) hx hb d_Outer_burn_4 (by decide) ?_
  refine lv_iconst (v := 0) hx hb d_Outer_burn_6 (by decide) ?_
  refine zcV (As := [.int 9, .int 0]) (rest := []) (ci := 9) E cy_Coast_begins kw_293 kw_294 kw_316 (c_Coast_begins l dC dI c1 c2 c3 A aC aD aE d (rest.set j (wL aC aL k kd ht tk σ.1 lt)) σ.2 9 0 90 (by decide)) hK hP hD hS 0 rfl zC_Coast.1 rfl rfl hl.1 rfl (Nat.le_of_ble_eq_true rfl) ⟨Nat.le_of_ble_eq_true rfl, Nat.le_of_ble_eq_true rfl⟩ d_Outer_burn_7 ⟨Nat.le_refl _, Nat.le_refl _⟩ (fun H locs hP hD hS => ?_)
  have hP : va_P (dC, dI) classes (wl c1 c2 aC aD aE aL k d kd ht tk lt rest j (σ.1, tb 90 σ.2)) H := hP
  have hD : va_D A (wl c1 c2 aC aD aE aL k d kd ht tk lt rest j (σ.1, tb 90 σ.2)) := hD
  refine lv_aload_n hx hb d_Outer_burn_10 rfl (lv_at hl 0 rfl) ?_
  refine lv_iload_n hx hb d_Outer_burn_11 rfl (lv_at hl 1 rfl) ?_
  refine zcP (x := ⟨"CoastLamps$Buoy", "burn", "(I)I"⟩) (As := [.int x]) (rest := []) (ci := k) E cy_Flare_burn kw_290 kw_318 ⟨rfl, rfl, by decide⟩ kw_250 (fun a1 g1 h1 h2 => z_sub1 (hts _ kw_237) h1 h2) kw_317 (c_Flare_burn l dC dI c1 c2 c3 A aC aD aE aL k hk d kd ht tk lt rest j hj (σ.1, tb 90 σ.2) x) hK hP hD hS (j + 3) (zg hj) (zC_K hk).1 rfl hl.1 rfl (Nat.le_of_ble_eq_true rfl) ⟨Nat.le_of_ble_eq_true rfl, Nat.le_of_ble_eq_true rfl⟩ d_Outer_burn_12 ⟨Nat.le_refl _, Nat.le_refl _⟩ (fun H locs hP hD hS => ?_)
  have hP : va_P (dC, dI) classes (wl c1 c2 aC aD aE aL k d kd ht tk lt rest j ((bFlare d x (σ.1, tb 90 σ.2)).2)) H := hP
  have hD : va_D A (wl c1 c2 aC aD aE aL k d kd ht tk lt rest j ((bFlare d x (σ.1, tb 90 σ.2)).2)) := hD
  refine lv_aload_n hx hb d_Outer_burn_15 rfl (lv_at hl 0 rfl) ?_
  refine zget (ci := k) (fs := [.ref aC, .int kd, .int ht, .int tk, .int (((bFlare d x (σ.1, tb 90 σ.2)).2).1), .int lt]) E hK hP (j + 3) (zg hj) (zC_K hk) 0 (by decide) kw_100 (Or.inr kw_101) rfl d_Outer_burn_16 ?_
  refine lv_iconst (v := 1) hx hb d_Outer_burn_19 (by decide) ?_
  refine zcV (As := [.int 1]) (rest := [.int ((bFlare d x (σ.1, tb 90 σ.2)).1)]) (ci := 9) E cy_Coast_dialed kw_73 kw_74 kw_320 (c_Coast_dialed l dC dI c1 c2 c3 A aC aD aE d (rest.set j (wL aC aL k kd ht tk (((bFlare d x (σ.1, tb 90 σ.2)).2).1) lt)) (((bFlare d x (σ.1, tb 90 σ.2)).2).2) 1 1 (by decide) (by decide)) hK hP hD hS 0 rfl zC_Coast.1 rfl rfl hl.1 rfl (Nat.le_of_ble_eq_true rfl) ⟨Nat.le_of_ble_eq_true rfl, Nat.le_of_ble_eq_true rfl⟩ d_Outer_burn_20 ⟨Nat.le_refl _, Nat.le_refl _⟩ (fun H locs hP hD hS => ?_)
  have hP : va_P (dC, dI) classes (wl c1 c2 aC aD aE aL k d kd ht tk lt rest j ((bFlare d x (σ.1, tb 90 σ.2)).2)) H := hP
  have hD : va_D A (wl c1 c2 aC aD aE aL k d kd ht tk lt rest j ((bFlare d x (σ.1, tb 90 σ.2)).2)) := hD
  refine lv_isub hx hb d_Outer_burn_23 ?_
  refine lv_iconst (v := 0) hx hb d_Outer_burn_24 (by decide) ?_
  refine zmax E hl.1 kw_321 kw_322 kw_14 kw_323 (Nat.le_of_ble_eq_true rfl) (Nat.le_of_ble_eq_true rfl) ⟨Nat.le_refl _, Nat.le_refl _⟩ d_Outer_burn_25 ?_
  exact zri E hK hP hD hS d_Outer_burn_28
set_option maxHeartbeats 4000000 in
set_option maxRecDepth 100000 in
theorem c_Lamp_reach (l : Launch) (dC : Nat → ClassId) (dI : Nat → Nat → Nat) (c1 c2 c3 : ClassId) (A : Nat → Prop) (aC aD aE aL k : Nat) (hk : k < 9) (d : Nat → Int32) (kd ht tk lt : Int32) (rest : va_W) (j : Nat) (hj : j < rest.length) (σ : zS) (x : Int32) : zM l y_Lamp_reach b_Lamp_reach 2 (some (FieldType.int)) 1 22 [.ref aL, .int x] (dC, dI) (t3 c1 c2 c3) A (wl c1 c2 aC aD aE aL k d kd ht tk lt rest j σ) (wl c1 c2 aC aD aE aL k d kd ht tk lt rest j (rLamp ht x σ).2) (some (.int (rLamp ht x σ).1)) := by
  refine zM_of "CoastLamps$Lamp" rfl (by decide) (Nat.le_of_ble_eq_true rfl) ?_
  intro p e s m below meth c ls E hP hK hD hS hl
  obtain ⟨hx, hb, hml, ho, hts, hr, hlk⟩ := id E
  have hl : lv_has ls 2 [(0, .ref aL), (1, .int x)] := hl
  refine lv_aload_n hx hb d_Lamp_reach_0 rfl (lv_at hl 0 rfl) ?_
  refine zget (ci := k) (fs := [.ref aC, .int kd, .int ht, .int tk, .int σ.1, .int lt]) E hK hP (j + 3) (zg hj) (zC_K hk) 0 (by decide) kw_97 (Or.inl rfl) rfl d_Lamp_reach_1 ?_
  refine lv_iconst (v := 0) hx hb d_Lamp_reach_4 (by decide) ?_
  refine lv_iconst (v := 1) hx hb d_Lamp_reach_5 (by decide) ?_
  refine zcV (As := [.int 0, .int 1]) (rest := []) (ci := 9) E cy_Coast_begins kw_293 kw_294 kw_334 (c_Coast_begins l dC dI c1 c2 c3 A aC aD aE d (rest.set j (wL aC aL k kd ht tk σ.1 lt)) σ.2 0 1 1 (by decide)) hK hP hD hS 0 rfl zC_Coast.1 rfl rfl hl.1 rfl (Nat.le_of_ble_eq_true rfl) ⟨Nat.le_of_ble_eq_true rfl, Nat.le_of_ble_eq_true rfl⟩ d_Lamp_reach_6 ⟨Nat.le_refl _, Nat.le_refl _⟩ (fun H locs hP hD hS => ?_)
  have hP : va_P (dC, dI) classes (wl c1 c2 aC aD aE aL k d kd ht tk lt rest j (σ.1, tb 1 σ.2)) H := hP
  have hD : va_D A (wl c1 c2 aC aD aE aL k d kd ht tk lt rest j (σ.1, tb 1 σ.2)) := hD
  refine lv_aload_n hx hb d_Lamp_reach_9 rfl (lv_at hl 0 rfl) ?_
  refine zget (ci := k) (fs := [.ref aC, .int kd, .int ht, .int tk, .int σ.1, .int lt]) E hK hP (j + 3) (zg hj) (zC_K hk) 2 (by decide) kw_118 (Or.inl rfl) rfl d_Lamp_reach_10 ?_
  refine lv_bipush (v := 10) hx hb d_Lamp_reach_13 (by decide) ?_
  refine lv_idiv hx hb d_Lamp_reach_15 (by decide) ?_
  refine lv_bipush (v := 30) hx hb d_Lamp_reach_16 (by decide) ?_
  refine lv_iadd hx hb d_Lamp_reach_18 ?_
  refine lv_iconst (v := 3) hx hb d_Lamp_reach_19 (by decide) ?_
  refine lv_iload_n hx hb d_Lamp_reach_20 rfl (lv_at hl 1 rfl) ?_
  refine lv_imul hx hb d_Lamp_reach_21 ?_
  refine lv_isub hx hb d_Lamp_reach_22 ?_
  exact zri E hK hP hD hS d_Lamp_reach_23
set_option maxHeartbeats 4000000 in
set_option maxRecDepth 100000 in
theorem c_Round_reach (l : Launch) (dC : Nat → ClassId) (dI : Nat → Nat → Nat) (c1 c2 c3 : ClassId) (A : Nat → Prop) (aC aD aE aL k : Nat) (hk : k < 9) (d : Nat → Int32) (kd ht tk lt : Int32) (rest : va_W) (j : Nat) (hj : j < rest.length) (σ : zS) (x : Int32) : zM l y_Round_reach b_Round_reach 2 (some (FieldType.int)) 2 43 [.ref aL, .int x] (dC, dI) (t3 c1 c2 c3) A (wl c1 c2 aC aD aE aL k d kd ht tk lt rest j σ) (wl c1 c2 aC aD aE aL k d kd ht tk lt rest j (rRound d ht x σ).2) (some (.int (rRound d ht x σ).1)) := by
  refine zM_of "CoastLamps$Round" rfl (by decide) (Nat.le_of_ble_eq_true rfl) ?_
  intro p e s m below meth c ls E hP hK hD hS hl
  obtain ⟨hx, hb, hml, ho, hts, hr, hlk⟩ := id E
  have hl : lv_has ls 2 [(0, .ref aL), (1, .int x)] := hl
  refine lv_aload_n hx hb d_Round_reach_0 rfl (lv_at hl 0 rfl) ?_
  refine zget (ci := k) (fs := [.ref aC, .int kd, .int ht, .int tk, .int σ.1, .int lt]) E hK hP (j + 3) (zg hj) (zC_K hk) 0 (by decide) kw_110 (Or.inr kw_111) rfl d_Round_reach_1 ?_
  refine lv_iconst (v := 2) hx hb d_Round_reach_4 (by decide) ?_
  refine lv_iconst (v := 1) hx hb d_Round_reach_5 (by decide) ?_
  refine zcV (As := [.int 2, .int 1]) (rest := []) (ci := 9) E cy_Coast_begins kw_293 kw_294 kw_360 (c_Coast_begins l dC dI c1 c2 c3 A aC aD aE d (rest.set j (wL aC aL k kd ht tk σ.1 lt)) σ.2 2 1 21 (by decide)) hK hP hD hS 0 rfl zC_Coast.1 rfl rfl hl.1 rfl (Nat.le_of_ble_eq_true rfl) ⟨Nat.le_of_ble_eq_true rfl, Nat.le_of_ble_eq_true rfl⟩ d_Round_reach_6 ⟨Nat.le_refl _, Nat.le_refl _⟩ (fun H locs hP hD hS => ?_)
  have hP : va_P (dC, dI) classes (wl c1 c2 aC aD aE aL k d kd ht tk lt rest j (σ.1, tb 21 σ.2)) H := hP
  have hD : va_D A (wl c1 c2 aC aD aE aL k d kd ht tk lt rest j (σ.1, tb 21 σ.2)) := hD
  refine lv_aload_n hx hb d_Round_reach_9 rfl (lv_at hl 0 rfl) ?_
  refine lv_iload_n hx hb d_Round_reach_10 rfl (lv_at hl 1 rfl) ?_
  refine zcP (x := ⟨"CoastLamps$Oil", "reach", "(I)I"⟩) (As := [.int x]) (rest := []) (ci := k) E cy_Lamp_reach kw_337 kw_362 ⟨rfl, rfl, by decide⟩ kw_159 (fun a1 g1 h1 h2 => z_sub1 (hts _ kw_146) h1 h2) kw_361 (c_Lamp_reach l dC dI c1 c2 c3 A aC aD aE aL k hk d kd ht tk lt rest j hj (σ.1, tb 21 σ.2) x) hK hP hD hS (j + 3) (zg hj) (zC_K hk).1 rfl hl.1 rfl (Nat.le_of_ble_eq_true rfl) ⟨Nat.le_of_ble_eq_true rfl, Nat.le_of_ble_eq_true rfl⟩ d_Round_reach_11 ⟨Nat.le_refl _, Nat.le_refl _⟩ (fun H locs hP hD hS => ?_)
  have hP : va_P (dC, dI) classes (wl c1 c2 aC aD aE aL k d kd ht tk lt rest j ((rLamp ht x (σ.1, tb 21 σ.2)).2)) H := hP
  have hD : va_D A (wl c1 c2 aC aD aE aL k d kd ht tk lt rest j ((rLamp ht x (σ.1, tb 21 σ.2)).2)) := hD
  refine lv_aload_n hx hb d_Round_reach_14 rfl (lv_at hl 0 rfl) ?_
  refine zget (ci := k) (fs := [.ref aC, .int kd, .int ht, .int tk, .int (((rLamp ht x (σ.1, tb 21 σ.2)).2).1), .int lt]) E hK hP (j + 3) (zg hj) (zC_K hk) 0 (by decide) kw_110 (Or.inr kw_111) rfl d_Round_reach_15 ?_
  refine lv_iconst (v := 2) hx hb d_Round_reach_18 (by decide) ?_
  refine zcV (As := [.int 2]) (rest := [.int ((rLamp ht x (σ.1, tb 21 σ.2)).1)]) (ci := 9) E cy_Coast_dialed kw_73 kw_74 kw_364 (c_Coast_dialed l dC dI c1 c2 c3 A aC aD aE d (rest.set j (wL aC aL k kd ht tk (((rLamp ht x (σ.1, tb 21 σ.2)).2).1) lt)) (((rLamp ht x (σ.1, tb 21 σ.2)).2).2) 2 2 (by decide) (by decide)) hK hP hD hS 0 rfl zC_Coast.1 rfl rfl hl.1 rfl (Nat.le_of_ble_eq_true rfl) ⟨Nat.le_of_ble_eq_true rfl, Nat.le_of_ble_eq_true rfl⟩ d_Round_reach_19 ⟨Nat.le_refl _, Nat.le_refl _⟩ (fun H locs hP hD hS => ?_)
  have hP : va_P (dC, dI) classes (wl c1 c2 aC aD aE aL k d kd ht tk lt rest j ((rLamp ht x (σ.1, tb 21 σ.2)).2)) H := hP
  have hD : va_D A (wl c1 c2 aC aD aE aL k d kd ht tk lt rest j ((rLamp ht x (σ.1, tb 21 σ.2)).2)) := hD
  refine lv_iadd hx hb d_Round_reach_22 ?_
  exact zri E hK hP hD hS d_Round_reach_23
set_option maxHeartbeats 4000000 in
set_option maxRecDepth 100000 in
theorem c_Twin_reach (l : Launch) (dC : Nat → ClassId) (dI : Nat → Nat → Nat) (c1 c2 c3 : ClassId) (A : Nat → Prop) (aC aD aE aL k : Nat) (hk : k < 9) (d : Nat → Int32) (kd ht tk lt : Int32) (rest : va_W) (j : Nat) (hj : j < rest.length) (σ : zS) (x : Int32) : zM l y_Twin_reach b_Twin_reach 3 (some (FieldType.int)) 3 64 [.ref aL, .int x] (dC, dI) (t3 c1 c2 c3) A (wl c1 c2 aC aD aE aL k d kd ht tk lt rest j σ) (wl c1 c2 aC aD aE aL k d kd ht tk lt rest j (rTwin d ht x σ).2) (some (.int (rTwin d ht x σ).1)) := by
  refine zM_of "CoastLamps$Twin" rfl (by decide) (Nat.le_of_ble_eq_true rfl) ?_
  intro p e s m below meth c ls E hP hK hD hS hl
  obtain ⟨hx, hb, hml, ho, hts, hr, hlk⟩ := id E
  have hl : lv_has ls 3 [(0, .ref aL), (1, .int x)] := hl
  refine lv_aload_n hx hb d_Twin_reach_0 rfl (lv_at hl 0 rfl) ?_
  refine zget (ci := k) (fs := [.ref aC, .int kd, .int ht, .int tk, .int σ.1, .int lt]) E hK hP (j + 3) (zg hj) (zC_K hk) 0 (by decide) kw_114 (Or.inr kw_115) rfl d_Twin_reach_1 ?_
  refine lv_iconst (v := 3) hx hb d_Twin_reach_4 (by decide) ?_
  refine lv_iconst (v := 1) hx hb d_Twin_reach_5 (by decide) ?_
  refine zcV (As := [.int 3, .int 1]) (rest := []) (ci := 9) E cy_Coast_begins kw_293 kw_294 kw_302 (c_Coast_begins l dC dI c1 c2 c3 A aC aD aE d (rest.set j (wL aC aL k kd ht tk σ.1 lt)) σ.2 3 1 31 (by decide)) hK hP hD hS 0 rfl zC_Coast.1 rfl rfl hl.1 rfl (Nat.le_of_ble_eq_true rfl) ⟨Nat.le_of_ble_eq_true rfl, Nat.le_of_ble_eq_true rfl⟩ d_Twin_reach_6 ⟨Nat.le_refl _, Nat.le_refl _⟩ (fun H locs hP hD hS => ?_)
  have hP : va_P (dC, dI) classes (wl c1 c2 aC aD aE aL k d kd ht tk lt rest j (σ.1, tb 31 σ.2)) H := hP
  have hD : va_D A (wl c1 c2 aC aD aE aL k d kd ht tk lt rest j (σ.1, tb 31 σ.2)) := hD
  refine lv_aload_n hx hb d_Twin_reach_9 rfl (lv_at hl 0 rfl) ?_
  refine lv_iload_n hx hb d_Twin_reach_10 rfl (lv_at hl 1 rfl) ?_
  refine zcP (x := ⟨"CoastLamps$Round", "reach", "(I)I"⟩) (As := [.int x]) (rest := []) (ci := k) E cy_Round_reach kw_358 kw_863 ⟨rfl, rfl, by decide⟩ kw_172 (fun a1 g1 h1 h2 => by cases h1.symm.trans h2; simp [Vm.isSubclass, Vm.isSubclassAux]) kw_357 (c_Round_reach l dC dI c1 c2 c3 A aC aD aE aL k hk d kd ht tk lt rest j hj (σ.1, tb 31 σ.2) x) hK hP hD hS (j + 3) (zg hj) (zC_K hk).1 rfl hl.1 rfl (Nat.le_of_ble_eq_true rfl) ⟨Nat.le_of_ble_eq_true rfl, Nat.le_of_ble_eq_true rfl⟩ d_Twin_reach_11 ⟨Nat.le_refl _, Nat.le_refl _⟩ (fun H locs hP hD hS => ?_)
  have hP : va_P (dC, dI) classes (wl c1 c2 aC aD aE aL k d kd ht tk lt rest j ((rRound d ht x (σ.1, tb 31 σ.2)).2)) H := hP
  have hD : va_D A (wl c1 c2 aC aD aE aL k d kd ht tk lt rest j ((rRound d ht x (σ.1, tb 31 σ.2)).2)) := hD
  refine lv_istore_n (lv' := [(2, .int ((rRound d ht x (σ.1, tb 31 σ.2)).1)), (0, .ref aL), (1, .int x)]) hx hb d_Twin_reach_14 rfl hl (by decide) rfl (fun ls hl => ?_)
  refine lv_iload_n hx hb d_Twin_reach_15 rfl (lv_at hl 0 rfl) ?_
  refine lv_aload_n hx hb d_Twin_reach_16 rfl (lv_at hl 1 rfl) ?_
  refine lv_iload_n hx hb d_Twin_reach_17 rfl (lv_at hl 2 rfl) ?_
  refine lv_iconst (v := 1) hx hb d_Twin_reach_18 (by decide) ?_
  refine lv_iadd hx hb d_Twin_reach_19 ?_
  refine zcP (x := ⟨"CoastLamps$Round", "reach", "(I)I"⟩) (As := [.int (x + 1)]) (rest := [.int ((rRound d ht x (σ.1, tb 31 σ.2)).1)]) (ci := k) E cy_Round_reach kw_358 kw_863 ⟨rfl, rfl, by decide⟩ kw_172 (fun a1 g1 h1 h2 => by cases h1.symm.trans h2; simp [Vm.isSubclass, Vm.isSubclassAux]) kw_357 (c_Round_reach l dC dI c1 c2 c3 A aC aD aE aL k hk d kd ht tk lt rest j hj ((rRound d ht x (σ.1, tb 31 σ.2)).2) (x + 1)) hK hP hD hS (j + 3) (zg hj) (zC_K hk).1 rfl hl.1 rfl (Nat.le_of_ble_eq_true rfl) ⟨Nat.le_of_ble_eq_true rfl, Nat.le_of_ble_eq_true rfl⟩ d_Twin_reach_20 ⟨Nat.le_refl _, Nat.le_refl _⟩ (fun H locs hP hD hS => ?_)
  have hP : va_P (dC, dI) classes (wl c1 c2 aC aD aE aL k d kd ht tk lt rest j ((rRound d ht (x + 1) ((rRound d ht x (σ.1, tb 31 σ.2)).2)).2)) H := hP
  have hD : va_D A (wl c1 c2 aC aD aE aL k d kd ht tk lt rest j ((rRound d ht (x + 1) ((rRound d ht x (σ.1, tb 31 σ.2)).2)).2)) := hD
  refine lv_iconst (v := 2) hx hb d_Twin_reach_23 (by decide) ?_
  refine lv_idiv hx hb d_Twin_reach_24 (by decide) ?_
  refine lv_iadd hx hb d_Twin_reach_25 ?_
  exact zri E hK hP hD hS d_Twin_reach_26
set_option maxHeartbeats 4000000 in
set_option maxRecDepth 100000 in
theorem c_Drum_reach (l : Launch) (dC : Nat → ClassId) (dI : Nat → Nat → Nat) (c1 c2 c3 : ClassId) (A : Nat → Prop) (aC aD aE aL k : Nat) (hk : k < 9) (d : Nat → Int32) (kd ht tk lt : Int32) (rest : va_W) (j : Nat) (hj : j < rest.length) (σ : zS) (x : Int32) : zM l y_Drum_reach b_Drum_reach 2 (some (FieldType.int)) 4 86 [.ref aL, .int x] (dC, dI) (t3 c1 c2 c3) A (wl c1 c2 aC aD aE aL k d kd ht tk lt rest j σ) (wl c1 c2 aC aD aE aL k d kd ht tk lt rest j (rDrum d ht x σ).2) (some (.int (rDrum d ht x σ).1)) := by
  refine zM_of "CoastLamps$Drum" rfl (by decide) (Nat.le_of_ble_eq_true rfl) ?_
  intro p e s m below meth c ls E hP hK hD hS hl
  obtain ⟨hx, hb, hml, ho, hts, hr, hlk⟩ := id E
  have hl : lv_has ls 2 [(0, .ref aL), (1, .int x)] := hl
  refine lv_aload_n hx hb d_Drum_reach_0 rfl (lv_at hl 0 rfl) ?_
  refine zget (ci := k) (fs := [.ref aC, .int kd, .int ht, .int tk, .int σ.1, .int lt]) E hK hP (j + 3) (zg hj) (zC_K hk) 0 (by decide) kw_108 (Or.inr kw_109) rfl d_Drum_reach_1 ?_
  refine lv_iconst (v := 4) hx hb d_Drum_reach_4 (by decide) ?_
  refine lv_iconst (v := 1) hx hb d_Drum_reach_5 (by decide) ?_
  refine zcV (As := [.int 4, .int 1]) (rest := []) (ci := 9) E cy_Coast_begins kw_293 kw_294 kw_353 (c_Coast_begins l dC dI c1 c2 c3 A aC aD aE d (rest.set j (wL aC aL k kd ht tk σ.1 lt)) σ.2 4 1 41 (by decide)) hK hP hD hS 0 rfl zC_Coast.1 rfl rfl hl.1 rfl (Nat.le_of_ble_eq_true rfl) ⟨Nat.le_of_ble_eq_true rfl, Nat.le_of_ble_eq_true rfl⟩ d_Drum_reach_6 ⟨Nat.le_refl _, Nat.le_refl _⟩ (fun H locs hP hD hS => ?_)
  have hP : va_P (dC, dI) classes (wl c1 c2 aC aD aE aL k d kd ht tk lt rest j (σ.1, tb 41 σ.2)) H := hP
  have hD : va_D A (wl c1 c2 aC aD aE aL k d kd ht tk lt rest j (σ.1, tb 41 σ.2)) := hD
  refine lv_aload_n hx hb d_Drum_reach_9 rfl (lv_at hl 0 rfl) ?_
  refine lv_iload_n hx hb d_Drum_reach_10 rfl (lv_at hl 1 rfl) ?_
  refine zcP (x := ⟨"CoastLamps$Twin", "reach", "(I)I"⟩) (As := [.int x]) (rest := []) (ci := k) E cy_Twin_reach kw_355 kw_862 ⟨rfl, rfl, by decide⟩ kw_185 (fun a1 g1 h1 h2 => by cases h1.symm.trans h2; simp [Vm.isSubclass, Vm.isSubclassAux]) kw_354 (c_Twin_reach l dC dI c1 c2 c3 A aC aD aE aL k hk d kd ht tk lt rest j hj (σ.1, tb 41 σ.2) x) hK hP hD hS (j + 3) (zg hj) (zC_K hk).1 rfl hl.1 rfl (Nat.le_of_ble_eq_true rfl) ⟨Nat.le_of_ble_eq_true rfl, Nat.le_of_ble_eq_true rfl⟩ d_Drum_reach_11 ⟨Nat.le_refl _, Nat.le_refl _⟩ (fun H locs hP hD hS => ?_)
  have hP : va_P (dC, dI) classes (wl c1 c2 aC aD aE aL k d kd ht tk lt rest j ((rTwin d ht x (σ.1, tb 41 σ.2)).2)) H := hP
  have hD : va_D A (wl c1 c2 aC aD aE aL k d kd ht tk lt rest j ((rTwin d ht x (σ.1, tb 41 σ.2)).2)) := hD
  refine lv_bipush (v := 20) hx hb d_Drum_reach_14 (by decide) ?_
  refine zmax E hl.1 kw_365 kw_322 kw_14 kw_323 (Nat.le_of_ble_eq_true rfl) (Nat.le_of_ble_eq_true rfl) ⟨Nat.le_refl _, Nat.le_refl _⟩ d_Drum_reach_16 ?_
  exact zri E hK hP hD hS d_Drum_reach_19
set_option maxHeartbeats 4000000 in
set_option maxRecDepth 100000 in
theorem c_Gas_reach (l : Launch) (dC : Nat → ClassId) (dI : Nat → Nat → Nat) (c1 c2 c3 : ClassId) (A : Nat → Prop) (aC aD aE aL k : Nat) (hk : k < 9) (d : Nat → Int32) (kd ht tk lt : Int32) (rest : va_W) (j : Nat) (hj : j < rest.length) (σ : zS) (x : Int32) : zM l y_Gas_reach b_Gas_reach 2 (some (FieldType.int)) 2 43 [.ref aL, .int x] (dC, dI) (t3 c1 c2 c3) A (wl c1 c2 aC aD aE aL k d kd ht tk lt rest j σ) (wl c1 c2 aC aD aE aL k d kd ht tk lt rest j (rGas ht x σ).2) (some (.int (rGas ht x σ).1)) := by
  refine zM_of "CoastLamps$Gas" rfl (by decide) (Nat.le_of_ble_eq_true rfl) ?_
  intro p e s m below meth c ls E hP hK hD hS hl
  obtain ⟨hx, hb, hml, ho, hts, hr, hlk⟩ := id E
  have hl : lv_has ls 2 [(0, .ref aL), (1, .int x)] := hl
  refine lv_aload_n hx hb d_Gas_reach_0 rfl (lv_at hl 0 rfl) ?_
  refine zget (ci := k) (fs := [.ref aC, .int kd, .int ht, .int tk, .int σ.1, .int lt]) E hK hP (j + 3) (zg hj) (zC_K hk) 0 (by decide) kw_106 (Or.inr kw_107) rfl d_Gas_reach_1 ?_
  refine lv_bipush (v := 6) hx hb d_Gas_reach_4 (by decide) ?_
  refine lv_iconst (v := 1) hx hb d_Gas_reach_6 (by decide) ?_
  refine zcV (As := [.int 6, .int 1]) (rest := []) (ci := 9) E cy_Coast_begins kw_293 kw_294 kw_348 (c_Coast_begins l dC dI c1 c2 c3 A aC aD aE d (rest.set j (wL aC aL k kd ht tk σ.1 lt)) σ.2 6 1 61 (by decide)) hK hP hD hS 0 rfl zC_Coast.1 rfl rfl hl.1 rfl (Nat.le_of_ble_eq_true rfl) ⟨Nat.le_of_ble_eq_true rfl, Nat.le_of_ble_eq_true rfl⟩ d_Gas_reach_7 ⟨Nat.le_refl _, Nat.le_refl _⟩ (fun H locs hP hD hS => ?_)
  have hP : va_P (dC, dI) classes (wl c1 c2 aC aD aE aL k d kd ht tk lt rest j (σ.1, tb 61 σ.2)) H := hP
  have hD : va_D A (wl c1 c2 aC aD aE aL k d kd ht tk lt rest j (σ.1, tb 61 σ.2)) := hD
  refine lv_aload_n hx hb d_Gas_reach_10 rfl (lv_at hl 0 rfl) ?_
  refine lv_iload_n hx hb d_Gas_reach_11 rfl (lv_at hl 1 rfl) ?_
  refine zcP (x := ⟨"CoastLamps$Lamp", "reach", "(I)I"⟩) (As := [.int x]) (rest := []) (ci := k) E cy_Lamp_reach kw_337 kw_338 ⟨rfl, rfl, by decide⟩ kw_211 (fun a1 g1 h1 h2 => by cases h1.symm.trans h2; simp [Vm.isSubclass, Vm.isSubclassAux]) kw_349 (c_Lamp_reach l dC dI c1 c2 c3 A aC aD aE aL k hk d kd ht tk lt rest j hj (σ.1, tb 61 σ.2) x) hK hP hD hS (j + 3) (zg hj) (zC_K hk).1 rfl hl.1 rfl (Nat.le_of_ble_eq_true rfl) ⟨Nat.le_of_ble_eq_true rfl, Nat.le_of_ble_eq_true rfl⟩ d_Gas_reach_12 ⟨Nat.le_refl _, Nat.le_refl _⟩ (fun H locs hP hD hS => ?_)
  have hP : va_P (dC, dI) classes (wl c1 c2 aC aD aE aL k d kd ht tk lt rest j ((rLamp ht x (σ.1, tb 61 σ.2)).2)) H := hP
  have hD : va_D A (wl c1 c2 aC aD aE aL k d kd ht tk lt rest j ((rLamp ht x (σ.1, tb 61 σ.2)).2)) := hD
  refine lv_aload_n hx hb d_Gas_reach_15 rfl (lv_at hl 0 rfl) ?_
  refine zget (ci := k) (fs := [.ref aC, .int kd, .int ht, .int tk, .int (((rLamp ht x (σ.1, tb 61 σ.2)).2).1), .int lt]) E hK hP (j + 3) (zg hj) (zC_K hk) 4 (by decide) kw_124 (Or.inr kw_125) rfl d_Gas_reach_16 ?_
  refine lv_bipush (v := 10) hx hb d_Gas_reach_19 (by decide) ?_
  refine lv_idiv hx hb d_Gas_reach_21 (by decide) ?_
  refine lv_isub hx hb d_Gas_reach_22 ?_
  exact zri E hK hP hD hS d_Gas_reach_23
set_option maxHeartbeats 4000000 in
set_option maxRecDepth 100000 in
theorem c_Buoy_reach (l : Launch) (dC : Nat → ClassId) (dI : Nat → Nat → Nat) (c1 c2 c3 : ClassId) (A : Nat → Prop) (aC aD aE aL k : Nat) (hk : k < 9) (d : Nat → Int32) (kd ht tk lt : Int32) (rest : va_W) (j : Nat) (hj : j < rest.length) (σ : zS) (x : Int32) : zM l y_Buoy_reach b_Buoy_reach 2 (some (FieldType.int)) 3 64 [.ref aL, .int x] (dC, dI) (t3 c1 c2 c3) A (wl c1 c2 aC aD aE aL k d kd ht tk lt rest j σ) (wl c1 c2 aC aD aE aL k d kd ht tk lt rest j (rBuoy ht x σ).2) (some (.int (rBuoy ht x σ).1)) := by
  refine zM_of "CoastLamps$Buoy" rfl (by decide) (Nat.le_of_ble_eq_true rfl) ?_
  intro p e s m below meth c ls E hP hK hD hS hl
  obtain ⟨hx, hb, hml, ho, hts, hr, hlk⟩ := id E
  have hl : lv_has ls 2 [(0, .ref aL), (1, .int x)] := hl
  refine lv_aload_n hx hb d_Buoy_reach_0 rfl (lv_at hl 0 rfl) ?_
  refine zget (ci := k) (fs := [.ref aC, .int kd, .int ht, .int tk, .int σ.1, .int lt]) E hK hP (j + 3) (zg hj) (zC_K hk) 0 (by decide) kw_104 (Or.inr kw_105) rfl d_Buoy_reach_1 ?_
  refine lv_bipush (v := 8) hx hb d_Buoy_reach_4 (by decide) ?_
  refine lv_iconst (v := 1) hx hb d_Buoy_reach_6 (by decide) ?_
  refine zcV (As := [.int 8, .int 1]) (rest := []) (ci := 9) E cy_Coast_begins kw_293 kw_294 kw_342 (c_Coast_begins l dC dI c1 c2 c3 A aC aD aE d (rest.set j (wL aC aL k kd ht tk σ.1 lt)) σ.2 8 1 81 (by decide)) hK hP hD hS 0 rfl zC_Coast.1 rfl rfl hl.1 rfl (Nat.le_of_ble_eq_true rfl) ⟨Nat.le_of_ble_eq_true rfl, Nat.le_of_ble_eq_true rfl⟩ d_Buoy_reach_7 ⟨Nat.le_refl _, Nat.le_refl _⟩ (fun H locs hP hD hS => ?_)
  have hP : va_P (dC, dI) classes (wl c1 c2 aC aD aE aL k d kd ht tk lt rest j (σ.1, tb 81 σ.2)) H := hP
  have hD : va_D A (wl c1 c2 aC aD aE aL k d kd ht tk lt rest j (σ.1, tb 81 σ.2)) := hD
  refine lv_aload_n hx hb d_Buoy_reach_10 rfl (lv_at hl 0 rfl) ?_
  refine lv_iload_n hx hb d_Buoy_reach_11 rfl (lv_at hl 1 rfl) ?_
  refine zcP (x := ⟨"CoastLamps$Flare", "reach", "(I)I"⟩) (As := [.int x]) (rest := []) (ci := k) E cy_Gas_reach kw_346 kw_344 ⟨rfl, rfl, by decide⟩ kw_237 (fun a1 g1 h1 h2 => z_sub1 (hts _ kw_224) h1 h2) kw_343 (c_Gas_reach l dC dI c1 c2 c3 A aC aD aE aL k hk d kd ht tk lt rest j hj (σ.1, tb 81 σ.2) x) hK hP hD hS (j + 3) (zg hj) (zC_K hk).1 rfl hl.1 rfl (Nat.le_of_ble_eq_true rfl) ⟨Nat.le_of_ble_eq_true rfl, Nat.le_of_ble_eq_true rfl⟩ d_Buoy_reach_12 ⟨Nat.le_refl _, Nat.le_refl _⟩ (fun H locs hP hD hS => ?_)
  have hP : va_P (dC, dI) classes (wl c1 c2 aC aD aE aL k d kd ht tk lt rest j ((rGas ht x (σ.1, tb 81 σ.2)).2)) H := hP
  have hD : va_D A (wl c1 c2 aC aD aE aL k d kd ht tk lt rest j ((rGas ht x (σ.1, tb 81 σ.2)).2)) := hD
  refine lv_iconst (v := 2) hx hb d_Buoy_reach_15 (by decide) ?_
  refine lv_idiv hx hb d_Buoy_reach_16 (by decide) ?_
  exact zri E hK hP hD hS d_Buoy_reach_17
set_option maxHeartbeats 4000000 in
set_option maxRecDepth 100000 in
theorem c_Lamp_flash (l : Launch) (dC : Nat → ClassId) (dI : Nat → Nat → Nat) (c1 c2 c3 : ClassId) (A : Nat → Prop) (aC aD aE aL k : Nat) (hk : k < 9) (d : Nat → Int32) (kd ht tk lt : Int32) (rest : va_W) (j : Nat) (hj : j < rest.length) (σ : zS) (x : Int32) : zM l y_Lamp_flash b_Lamp_flash 2 (some (FieldType.int)) 1 22 [.ref aL, .int x] (dC, dI) (t3 c1 c2 c3) A (wl c1 c2 aC aD aE aL k d kd ht tk lt rest j σ) (wl c1 c2 aC aD aE aL k d kd ht tk lt rest j (fLamp σ).2) (some (.int (fLamp σ).1)) := by
  refine zM_of "CoastLamps$Lamp" rfl (by decide) (Nat.le_of_ble_eq_true rfl) ?_
  intro p e s m below meth c ls E hP hK hD hS hl
  obtain ⟨hx, hb, hml, ho, hts, hr, hlk⟩ := id E
  have hl : lv_has ls 2 [(0, .ref aL), (1, .int x)] := hl
  refine lv_aload_n hx hb d_Lamp_flash_0 rfl (lv_at hl 0 rfl) ?_
  refine zget (ci := k) (fs := [.ref aC, .int kd, .int ht, .int tk, .int σ.1, .int lt]) E hK hP (j + 3) (zg hj) (zC_K hk) 0 (by decide) kw_97 (Or.inl rfl) rfl d_Lamp_flash_1 ?_
  refine lv_iconst (v := 0) hx hb d_Lamp_flash_4 (by decide) ?_
  refine lv_iconst (v := 2) hx hb d_Lamp_flash_5 (by decide) ?_
  refine zcV (As := [.int 0, .int 2]) (rest := []) (ci := 9) E cy_Coast_begins kw_293 kw_294 kw_334 (c_Coast_begins l dC dI c1 c2 c3 A aC aD aE d (rest.set j (wL aC aL k kd ht tk σ.1 lt)) σ.2 0 2 2 (by decide)) hK hP hD hS 0 rfl zC_Coast.1 rfl rfl hl.1 rfl (Nat.le_of_ble_eq_true rfl) ⟨Nat.le_of_ble_eq_true rfl, Nat.le_of_ble_eq_true rfl⟩ d_Lamp_flash_6 ⟨Nat.le_refl _, Nat.le_refl _⟩ (fun H locs hP hD hS => ?_)
  have hP : va_P (dC, dI) classes (wl c1 c2 aC aD aE aL k d kd ht tk lt rest j (σ.1, tb 2 σ.2)) H := hP
  have hD : va_D A (wl c1 c2 aC aD aE aL k d kd ht tk lt rest j (σ.1, tb 2 σ.2)) := hD
  refine lv_bipush (v := 100) hx hb d_Lamp_flash_9 (by decide) ?_
  exact zri E hK hP hD hS d_Lamp_flash_11
set_option maxHeartbeats 4000000 in
set_option maxRecDepth 100000 in
theorem c_Twin_flash (l : Launch) (dC : Nat → ClassId) (dI : Nat → Nat → Nat) (c1 c2 c3 : ClassId) (A : Nat → Prop) (aC aD aE aL k : Nat) (hk : k < 9) (d : Nat → Int32) (kd ht tk lt : Int32) (rest : va_W) (j : Nat) (hj : j < rest.length) (σ : zS) (x : Int32) : zM l y_Twin_flash b_Twin_flash 2 (some (FieldType.int)) 2 43 [.ref aL, .int x] (dC, dI) (t3 c1 c2 c3) A (wl c1 c2 aC aD aE aL k d kd ht tk lt rest j σ) (wl c1 c2 aC aD aE aL k d kd ht tk lt rest j (fTwin x σ).2) (some (.int (fTwin x σ).1)) := by
  by_cases h1 : x &&& 3 = 0
  · have e9 : fTwin x σ = (0, (σ.1, tb 32 σ.2)) := by unfold fTwin; rw [if_pos h1]
    rw [e9]
    refine zM_of "CoastLamps$Twin" rfl (by decide) (Nat.le_of_ble_eq_true rfl) ?_
    intro p e s m below meth c ls E hP hK hD hS hl
    obtain ⟨hx, hb, hml, ho, hts, hr, hlk⟩ := id E
    have hl : lv_has ls 2 [(0, .ref aL), (1, .int x)] := hl
    refine lv_aload_n hx hb d_Twin_flash_0 rfl (lv_at hl 0 rfl) ?_
    refine zget (ci := k) (fs := [.ref aC, .int kd, .int ht, .int tk, .int σ.1, .int lt]) E hK hP (j + 3) (zg hj) (zC_K hk) 0 (by decide) kw_114 (Or.inr kw_115) rfl d_Twin_flash_1 ?_
    refine lv_iconst (v := 3) hx hb d_Twin_flash_4 (by decide) ?_
    refine lv_iconst (v := 2) hx hb d_Twin_flash_5 (by decide) ?_
    refine zcV (As := [.int 3, .int 2]) (rest := []) (ci := 9) E cy_Coast_begins kw_293 kw_294 kw_302 (c_Coast_begins l dC dI c1 c2 c3 A aC aD aE d (rest.set j (wL aC aL k kd ht tk σ.1 lt)) σ.2 3 2 32 (by decide)) hK hP hD hS 0 rfl zC_Coast.1 rfl rfl hl.1 rfl (Nat.le_of_ble_eq_true rfl) ⟨Nat.le_of_ble_eq_true rfl, Nat.le_of_ble_eq_true rfl⟩ d_Twin_flash_6 ⟨Nat.le_refl _, Nat.le_refl _⟩ (fun H locs hP hD hS => ?_)
    have hP : va_P (dC, dI) classes (wl c1 c2 aC aD aE aL k d kd ht tk lt rest j (σ.1, tb 32 σ.2)) H := hP
    have hD : va_D A (wl c1 c2 aC aD aE aL k d kd ht tk lt rest j (σ.1, tb 32 σ.2)) := hD
    refine lv_iload_n hx hb d_Twin_flash_9 rfl (lv_at hl 1 rfl) ?_
    refine lv_iconst (v := 3) hx hb d_Twin_flash_10 (by decide) ?_
    refine lv_iand hx hb d_Twin_flash_11 ?_
    refine lv_if_ne (tgt := 19) hx hb d_Twin_flash_12 (by decide) (fun h9 => absurd (h1) h9) (fun _ => ?_)
    refine lv_iconst (v := 0) hx hb d_Twin_flash_15 (by decide) ?_
    refine lv_goto (tgt := 24) hx hb d_Twin_flash_16 (by decide) ?_
    exact zri E hK hP hD hS d_Twin_flash_24
  · have e9 : fTwin x σ = fLamp (σ.1, tb 32 σ.2) := by unfold fTwin; rw [if_neg h1]
    rw [e9]
    refine zM_of "CoastLamps$Twin" rfl (by decide) (Nat.le_of_ble_eq_true rfl) ?_
    intro p e s m below meth c ls E hP hK hD hS hl
    obtain ⟨hx, hb, hml, ho, hts, hr, hlk⟩ := id E
    have hl : lv_has ls 2 [(0, .ref aL), (1, .int x)] := hl
    refine lv_aload_n hx hb d_Twin_flash_0 rfl (lv_at hl 0 rfl) ?_
    refine zget (ci := k) (fs := [.ref aC, .int kd, .int ht, .int tk, .int σ.1, .int lt]) E hK hP (j + 3) (zg hj) (zC_K hk) 0 (by decide) kw_114 (Or.inr kw_115) rfl d_Twin_flash_1 ?_
    refine lv_iconst (v := 3) hx hb d_Twin_flash_4 (by decide) ?_
    refine lv_iconst (v := 2) hx hb d_Twin_flash_5 (by decide) ?_
    refine zcV (As := [.int 3, .int 2]) (rest := []) (ci := 9) E cy_Coast_begins kw_293 kw_294 kw_302 (c_Coast_begins l dC dI c1 c2 c3 A aC aD aE d (rest.set j (wL aC aL k kd ht tk σ.1 lt)) σ.2 3 2 32 (by decide)) hK hP hD hS 0 rfl zC_Coast.1 rfl rfl hl.1 rfl (Nat.le_of_ble_eq_true rfl) ⟨Nat.le_of_ble_eq_true rfl, Nat.le_of_ble_eq_true rfl⟩ d_Twin_flash_6 ⟨Nat.le_refl _, Nat.le_refl _⟩ (fun H locs hP hD hS => ?_)
    have hP : va_P (dC, dI) classes (wl c1 c2 aC aD aE aL k d kd ht tk lt rest j (σ.1, tb 32 σ.2)) H := hP
    have hD : va_D A (wl c1 c2 aC aD aE aL k d kd ht tk lt rest j (σ.1, tb 32 σ.2)) := hD
    refine lv_iload_n hx hb d_Twin_flash_9 rfl (lv_at hl 1 rfl) ?_
    refine lv_iconst (v := 3) hx hb d_Twin_flash_10 (by decide) ?_
    refine lv_iand hx hb d_Twin_flash_11 ?_
    refine lv_if_ne (tgt := 19) hx hb d_Twin_flash_12 (by decide) (fun _ => ?_) (fun h9 => absurd h9 (h1))
    refine lv_aload_n hx hb d_Twin_flash_19 rfl (lv_at hl 0 rfl) ?_
    refine lv_iload_n hx hb d_Twin_flash_20 rfl (lv_at hl 1 rfl) ?_
    refine zcP (x := ⟨"CoastLamps$Round", "flash", "(I)I"⟩) (As := [.int x]) (rest := []) (ci := k) E cy_Lamp_flash kw_375 kw_387 ⟨rfl, rfl, by decide⟩ kw_172 (fun a1 g1 h1 h2 => z_sub2 (hts _ kw_159) (hts _ kw_146) h1 h2) kw_386 (c_Lamp_flash l dC dI c1 c2 c3 A aC aD aE aL k hk d kd ht tk lt rest j hj (σ.1, tb 32 σ.2) x) hK hP hD hS (j + 3) (zg hj) (zC_K hk).1 rfl hl.1 rfl (Nat.le_of_ble_eq_true rfl) ⟨Nat.le_of_ble_eq_true rfl, Nat.le_of_ble_eq_true rfl⟩ d_Twin_flash_21 ⟨Nat.le_refl _, Nat.le_refl _⟩ (fun H locs hP hD hS => ?_)
    have hP : va_P (dC, dI) classes (wl c1 c2 aC aD aE aL k d kd ht tk lt rest j ((fLamp (σ.1, tb 32 σ.2)).2)) H := hP
    have hD : va_D A (wl c1 c2 aC aD aE aL k d kd ht tk lt rest j ((fLamp (σ.1, tb 32 σ.2)).2)) := hD
    exact zri E hK hP hD hS d_Twin_flash_24
set_option maxHeartbeats 4000000 in
set_option maxRecDepth 100000 in
theorem c_Swing_flash (l : Launch) (dC : Nat → ClassId) (dI : Nat → Nat → Nat) (c1 c2 c3 : ClassId) (A : Nat → Prop) (aC aD aE aL k : Nat) (hk : k < 9) (d : Nat → Int32) (kd ht tk lt : Int32) (rest : va_W) (j : Nat) (hj : j < rest.length) (σ : zS) (x : Int32) : zM l y_Swing_flash b_Swing_flash 2 (some (FieldType.int)) 3 64 [.ref aL, .int x] (dC, dI) (t3 c1 c2 c3) A (wl c1 c2 aC aD aE aL k d kd ht tk lt rest j σ) (wl c1 c2 aC aD aE aL k d kd ht tk lt rest j (fSwing x σ).2) (some (.int (fSwing x σ).1)) := by
  refine zM_of "CoastLamps$Swing" rfl (by decide) (Nat.le_of_ble_eq_true rfl) ?_
  intro p e s m below meth c ls E hP hK hD hS hl
  obtain ⟨hx, hb, hml, ho, hts, hr, hlk⟩ := id E
  have hl : lv_has ls 2 [(0, .ref aL), (1, .int x)] := hl
  refine lv_aload_n hx hb d_Swing_flash_0 rfl (lv_at hl 0 rfl) ?_
  refine zget (ci := k) (fs := [.ref aC, .int kd, .int ht, .int tk, .int σ.1, .int lt]) E hK hP (j + 3) (zg hj) (zC_K hk) 0 (by decide) kw_102 (Or.inr kw_103) rfl d_Swing_flash_1 ?_
  refine lv_iconst (v := 5) hx hb d_Swing_flash_4 (by decide) ?_
  refine lv_iconst (v := 2) hx hb d_Swing_flash_5 (by decide) ?_
  refine zcV (As := [.int 5, .int 2]) (rest := []) (ci := 9) E cy_Coast_begins kw_293 kw_294 kw_328 (c_Coast_begins l dC dI c1 c2 c3 A aC aD aE d (rest.set j (wL aC aL k kd ht tk σ.1 lt)) σ.2 5 2 52 (by decide)) hK hP hD hS 0 rfl zC_Coast.1 rfl rfl hl.1 rfl (Nat.le_of_ble_eq_true rfl) ⟨Nat.le_of_ble_eq_true rfl, Nat.le_of_ble_eq_true rfl⟩ d_Swing_flash_6 ⟨Nat.le_refl _, Nat.le_refl _⟩ (fun H locs hP hD hS => ?_)
  have hP : va_P (dC, dI) classes (wl c1 c2 aC aD aE aL k d kd ht tk lt rest j (σ.1, tb 52 σ.2)) H := hP
  have hD : va_D A (wl c1 c2 aC aD aE aL k d kd ht tk lt rest j (σ.1, tb 52 σ.2)) := hD
  refine lv_aload_n hx hb d_Swing_flash_9 rfl (lv_at hl 0 rfl) ?_
  refine lv_iload_n hx hb d_Swing_flash_10 rfl (lv_at hl 1 rfl) ?_
  refine lv_iconst (v := 3) hx hb d_Swing_flash_11 (by decide) ?_
  refine lv_idiv hx hb d_Swing_flash_12 (by decide) ?_
  refine zcP (x := ⟨"CoastLamps$Drum", "flash", "(I)I"⟩) (As := [.int (x / 3)]) (rest := []) (ci := k) E cy_Twin_flash kw_384 kw_402 ⟨rfl, rfl, by decide⟩ kw_198 (fun a1 g1 h1 h2 => z_sub1 (hts _ kw_185) h1 h2) kw_401 (c_Twin_flash l dC dI c1 c2 c3 A aC aD aE aL k hk d kd ht tk lt rest j hj (σ.1, tb 52 σ.2) (x / 3)) hK hP hD hS (j + 3) (zg hj) (zC_K hk).1 rfl hl.1 rfl (Nat.le_of_ble_eq_true rfl) ⟨Nat.le_of_ble_eq_true rfl, Nat.le_of_ble_eq_true rfl⟩ d_Swing_flash_13 ⟨Nat.le_refl _, Nat.le_refl _⟩ (fun H locs hP hD hS => ?_)
  have hP : va_P (dC, dI) classes (wl c1 c2 aC aD aE aL k d kd ht tk lt rest j ((fTwin (x / 3) (σ.1, tb 52 σ.2)).2)) H := hP
  have hD : va_D A (wl c1 c2 aC aD aE aL k d kd ht tk lt rest j ((fTwin (x / 3) (σ.1, tb 52 σ.2)).2)) := hD
  exact zri E hK hP hD hS d_Swing_flash_16
set_option maxHeartbeats 4000000 in
set_option maxRecDepth 100000 in
theorem c_Flare_flash (l : Launch) (dC : Nat → ClassId) (dI : Nat → Nat → Nat) (c1 c2 c3 : ClassId) (A : Nat → Prop) (aC aD aE aL k : Nat) (hk : k < 9) (d : Nat → Int32) (kd ht tk lt : Int32) (rest : va_W) (j : Nat) (hj : j < rest.length) (σ : zS) (x : Int32) : zM l y_Flare_flash b_Flare_flash 2 (some (FieldType.int)) 2 43 [.ref aL, .int x] (dC, dI) (t3 c1 c2 c3) A (wl c1 c2 aC aD aE aL k d kd ht tk lt rest j σ) (wl c1 c2 aC aD aE aL k d kd ht tk lt rest j (fFlare x σ).2) (some (.int (fFlare x σ).1)) := by
  by_cases h1 : x &&& 1 = 0
  · have e9 : fFlare x σ = fLamp (σ.1, tb 72 σ.2) := by unfold fFlare; rw [if_pos h1]
    rw [e9]
    refine zM_of "CoastLamps$Flare" rfl (by decide) (Nat.le_of_ble_eq_true rfl) ?_
    intro p e s m below meth c ls E hP hK hD hS hl
    obtain ⟨hx, hb, hml, ho, hts, hr, hlk⟩ := id E
    have hl : lv_has ls 2 [(0, .ref aL), (1, .int x)] := hl
    refine lv_aload_n hx hb d_Flare_flash_0 rfl (lv_at hl 0 rfl) ?_
    refine zget (ci := k) (fs := [.ref aC, .int kd, .int ht, .int tk, .int σ.1, .int lt]) E hK hP (j + 3) (zg hj) (zC_K hk) 0 (by decide) kw_112 (Or.inr kw_113) rfl d_Flare_flash_1 ?_
    refine lv_bipush (v := 7) hx hb d_Flare_flash_4 (by decide) ?_
    refine lv_iconst (v := 2) hx hb d_Flare_flash_6 (by decide) ?_
    refine zcV (As := [.int 7, .int 2]) (rest := []) (ci := 9) E cy_Coast_begins kw_293 kw_294 kw_292 (c_Coast_begins l dC dI c1 c2 c3 A aC aD aE d (rest.set j (wL aC aL k kd ht tk σ.1 lt)) σ.2 7 2 72 (by decide)) hK hP hD hS 0 rfl zC_Coast.1 rfl rfl hl.1 rfl (Nat.le_of_ble_eq_true rfl) ⟨Nat.le_of_ble_eq_true rfl, Nat.le_of_ble_eq_true rfl⟩ d_Flare_flash_7 ⟨Nat.le_refl _, Nat.le_refl _⟩ (fun H locs hP hD hS => ?_)
    have hP : va_P (dC, dI) classes (wl c1 c2 aC aD aE aL k d kd ht tk lt rest j (σ.1, tb 72 σ.2)) H := hP
    have hD : va_D A (wl c1 c2 aC aD aE aL k d kd ht tk lt rest j (σ.1, tb 72 σ.2)) := hD
    refine lv_iload_n hx hb d_Flare_flash_10 rfl (lv_at hl 1 rfl) ?_
    refine lv_iconst (v := 1) hx hb d_Flare_flash_11 (by decide) ?_
    refine lv_iand hx hb d_Flare_flash_12 ?_
    refine lv_if_ne (tgt := 24) hx hb d_Flare_flash_13 (by decide) (fun h9 => absurd (h1) h9) (fun _ => ?_)
    refine lv_aload_n hx hb d_Flare_flash_16 rfl (lv_at hl 0 rfl) ?_
    refine lv_iload_n hx hb d_Flare_flash_17 rfl (lv_at hl 1 rfl) ?_
    refine zcP (x := ⟨"CoastLamps$Gas", "flash", "(I)I"⟩) (As := [.int x]) (rest := []) (ci := k) E cy_Lamp_flash kw_375 kw_381 ⟨rfl, rfl, by decide⟩ kw_224 (fun a1 g1 h1 h2 => z_sub1 (hts _ kw_211) h1 h2) kw_380 (c_Lamp_flash l dC dI c1 c2 c3 A aC aD aE aL k hk d kd ht tk lt rest j hj (σ.1, tb 72 σ.2) x) hK hP hD hS (j + 3) (zg hj) (zC_K hk).1 rfl hl.1 rfl (Nat.le_of_ble_eq_true rfl) ⟨Nat.le_of_ble_eq_true rfl, Nat.le_of_ble_eq_true rfl⟩ d_Flare_flash_18 ⟨Nat.le_refl _, Nat.le_refl _⟩ (fun H locs hP hD hS => ?_)
    have hP : va_P (dC, dI) classes (wl c1 c2 aC aD aE aL k d kd ht tk lt rest j ((fLamp (σ.1, tb 72 σ.2)).2)) H := hP
    have hD : va_D A (wl c1 c2 aC aD aE aL k d kd ht tk lt rest j ((fLamp (σ.1, tb 72 σ.2)).2)) := hD
    refine lv_goto (tgt := 25) hx hb d_Flare_flash_21 (by decide) ?_
    exact zri E hK hP hD hS d_Flare_flash_25
  · have e9 : fFlare x σ = (0, (σ.1, tb 72 σ.2)) := by unfold fFlare; rw [if_neg h1]
    rw [e9]
    refine zM_of "CoastLamps$Flare" rfl (by decide) (Nat.le_of_ble_eq_true rfl) ?_
    intro p e s m below meth c ls E hP hK hD hS hl
    obtain ⟨hx, hb, hml, ho, hts, hr, hlk⟩ := id E
    have hl : lv_has ls 2 [(0, .ref aL), (1, .int x)] := hl
    refine lv_aload_n hx hb d_Flare_flash_0 rfl (lv_at hl 0 rfl) ?_
    refine zget (ci := k) (fs := [.ref aC, .int kd, .int ht, .int tk, .int σ.1, .int lt]) E hK hP (j + 3) (zg hj) (zC_K hk) 0 (by decide) kw_112 (Or.inr kw_113) rfl d_Flare_flash_1 ?_
    refine lv_bipush (v := 7) hx hb d_Flare_flash_4 (by decide) ?_
    refine lv_iconst (v := 2) hx hb d_Flare_flash_6 (by decide) ?_
    refine zcV (As := [.int 7, .int 2]) (rest := []) (ci := 9) E cy_Coast_begins kw_293 kw_294 kw_292 (c_Coast_begins l dC dI c1 c2 c3 A aC aD aE d (rest.set j (wL aC aL k kd ht tk σ.1 lt)) σ.2 7 2 72 (by decide)) hK hP hD hS 0 rfl zC_Coast.1 rfl rfl hl.1 rfl (Nat.le_of_ble_eq_true rfl) ⟨Nat.le_of_ble_eq_true rfl, Nat.le_of_ble_eq_true rfl⟩ d_Flare_flash_7 ⟨Nat.le_refl _, Nat.le_refl _⟩ (fun H locs hP hD hS => ?_)
    have hP : va_P (dC, dI) classes (wl c1 c2 aC aD aE aL k d kd ht tk lt rest j (σ.1, tb 72 σ.2)) H := hP
    have hD : va_D A (wl c1 c2 aC aD aE aL k d kd ht tk lt rest j (σ.1, tb 72 σ.2)) := hD
    refine lv_iload_n hx hb d_Flare_flash_10 rfl (lv_at hl 1 rfl) ?_
    refine lv_iconst (v := 1) hx hb d_Flare_flash_11 (by decide) ?_
    refine lv_iand hx hb d_Flare_flash_12 ?_
    refine lv_if_ne (tgt := 24) hx hb d_Flare_flash_13 (by decide) (fun _ => ?_) (fun h9 => absurd h9 (h1))
    refine lv_iconst (v := 0) hx hb d_Flare_flash_24 (by decide) ?_
    exact zri E hK hP hD hS d_Flare_flash_25
set_option maxHeartbeats 4000000 in
set_option maxRecDepth 100000 in
theorem c_Outer_flash (l : Launch) (dC : Nat → ClassId) (dI : Nat → Nat → Nat) (c1 c2 c3 : ClassId) (A : Nat → Prop) (aC aD aE aL k : Nat) (hk : k < 9) (d : Nat → Int32) (kd ht tk lt : Int32) (rest : va_W) (j : Nat) (hj : j < rest.length) (σ : zS) (x : Int32) : zM l y_Outer_flash b_Outer_flash 3 (some (FieldType.int)) 3 64 [.ref aL, .int x] (dC, dI) (t3 c1 c2 c3) A (wl c1 c2 aC aD aE aL k d kd ht tk lt rest j σ) (wl c1 c2 aC aD aE aL k d kd ht tk lt rest j (fOuter x σ).2) (some (.int (fOuter x σ).1)) := by
  refine zM_of "CoastLamps$Outer" rfl (by decide) (Nat.le_of_ble_eq_true rfl) ?_
  intro p e s m below meth c ls E hP hK hD hS hl
  obtain ⟨hx, hb, hml, ho, hts, hr, hlk⟩ := id E
  have hl : lv_has ls 3 [(0, .ref aL), (1, .int x)] := hl
  refine lv_aload_n hx hb d_Outer_flash_0 rfl (lv_at hl 0 rfl) ?_
  refine zget (ci := k) (fs := [.ref aC, .int kd, .int ht, .int tk, .int σ.1, .int lt]) E hK hP (j + 3) (zg hj) (zC_K hk) 0 (by decide) kw_100 (Or.inr kw_101) rfl d_Outer_flash_1 ?_
  refine lv_bipush (v := 9) hx hb d_Outer_flash_4 (by decide) ?_
  refine lv_iconst (v := 2) hx hb d_Outer_flash_6 (by decide) ?_
  refine zcV (As := [.int 9, .int 2]) (rest := []) (ci := 9) E cy_Coast_begins kw_293 kw_294 kw_316 (c_Coast_begins l dC dI c1 c2 c3 A aC aD aE d (rest.set j (wL aC aL k kd ht tk σ.1 lt)) σ.2 9 2 92 (by decide)) hK hP hD hS 0 rfl zC_Coast.1 rfl rfl hl.1 rfl (Nat.le_of_ble_eq_true rfl) ⟨Nat.le_of_ble_eq_true rfl, Nat.le_of_ble_eq_true rfl⟩ d_Outer_flash_7 ⟨Nat.le_refl _, Nat.le_refl _⟩ (fun H locs hP hD hS => ?_)
  have hP : va_P (dC, dI) classes (wl c1 c2 aC aD aE aL k d kd ht tk lt rest j (σ.1, tb 92 σ.2)) H := hP
  have hD : va_D A (wl c1 c2 aC aD aE aL k d kd ht tk lt rest j (σ.1, tb 92 σ.2)) := hD
  refine lv_aload_n hx hb d_Outer_flash_10 rfl (lv_at hl 0 rfl) ?_
  refine lv_iload_n hx hb d_Outer_flash_11 rfl (lv_at hl 1 rfl) ?_
  refine zcP (x := ⟨"CoastLamps$Buoy", "flash", "(I)I"⟩) (As := [.int x]) (rest := []) (ci := k) E cy_Flare_flash kw_378 kw_395 ⟨rfl, rfl, by decide⟩ kw_250 (fun a1 g1 h1 h2 => z_sub1 (hts _ kw_237) h1 h2) kw_394 (c_Flare_flash l dC dI c1 c2 c3 A aC aD aE aL k hk d kd ht tk lt rest j hj (σ.1, tb 92 σ.2) x) hK hP hD hS (j + 3) (zg hj) (zC_K hk).1 rfl hl.1 rfl (Nat.le_of_ble_eq_true rfl) ⟨Nat.le_of_ble_eq_true rfl, Nat.le_of_ble_eq_true rfl⟩ d_Outer_flash_12 ⟨Nat.le_refl _, Nat.le_refl _⟩ (fun H locs hP hD hS => ?_)
  have hP : va_P (dC, dI) classes (wl c1 c2 aC aD aE aL k d kd ht tk lt rest j ((fFlare x (σ.1, tb 92 σ.2)).2)) H := hP
  have hD : va_D A (wl c1 c2 aC aD aE aL k d kd ht tk lt rest j ((fFlare x (σ.1, tb 92 σ.2)).2)) := hD
  refine lv_istore_n (lv' := [(2, .int ((fFlare x (σ.1, tb 92 σ.2)).1)), (0, .ref aL), (1, .int x)]) hx hb d_Outer_flash_15 rfl hl (by decide) rfl (fun ls hl => ?_)
  refine lv_iload_n hx hb d_Outer_flash_16 rfl (lv_at hl 0 rfl) ?_
  refine lv_aload_n hx hb d_Outer_flash_17 rfl (lv_at hl 1 rfl) ?_
  refine lv_iload_n hx hb d_Outer_flash_18 rfl (lv_at hl 2 rfl) ?_
  refine lv_iconst (v := 1) hx hb d_Outer_flash_19 (by decide) ?_
  refine lv_iadd hx hb d_Outer_flash_20 ?_
  refine zcP (x := ⟨"CoastLamps$Buoy", "flash", "(I)I"⟩) (As := [.int (x + 1)]) (rest := [.int ((fFlare x (σ.1, tb 92 σ.2)).1)]) (ci := k) E cy_Flare_flash kw_378 kw_395 ⟨rfl, rfl, by decide⟩ kw_250 (fun a1 g1 h1 h2 => z_sub1 (hts _ kw_237) h1 h2) kw_394 (c_Flare_flash l dC dI c1 c2 c3 A aC aD aE aL k hk d kd ht tk lt rest j hj ((fFlare x (σ.1, tb 92 σ.2)).2) (x + 1)) hK hP hD hS (j + 3) (zg hj) (zC_K hk).1 rfl hl.1 rfl (Nat.le_of_ble_eq_true rfl) ⟨Nat.le_of_ble_eq_true rfl, Nat.le_of_ble_eq_true rfl⟩ d_Outer_flash_21 ⟨Nat.le_refl _, Nat.le_refl _⟩ (fun H locs hP hD hS => ?_)
  have hP : va_P (dC, dI) classes (wl c1 c2 aC aD aE aL k d kd ht tk lt rest j ((fFlare (x + 1) ((fFlare x (σ.1, tb 92 σ.2)).2)).2)) H := hP
  have hD : va_D A (wl c1 c2 aC aD aE aL k d kd ht tk lt rest j ((fFlare (x + 1) ((fFlare x (σ.1, tb 92 σ.2)).2)).2)) := hD
  refine lv_iadd hx hb d_Outer_flash_24 ?_
  exact zri E hK hP hD hS d_Outer_flash_25
set_option maxHeartbeats 4000000 in
set_option maxRecDepth 100000 in
theorem c_Lamp_tend (l : Launch) (dC : Nat → ClassId) (dI : Nat → Nat → Nat) (c1 c2 c3 : ClassId) (A : Nat → Prop) (aC aD aE aL k : Nat) (hk : k < 9) (d : Nat → Int32) (kd ht tk lt : Int32) (rest : va_W) (j : Nat) (hj : j < rest.length) (σ : zS) (x : Int32) : zM l y_Lamp_tend b_Lamp_tend 2 (some (FieldType.int)) 1 22 [.ref aL, .int x] (dC, dI) (t3 c1 c2 c3) A (wl c1 c2 aC aD aE aL k d kd ht tk lt rest j σ) (wl c1 c2 aC aD aE aL k d kd ht tk lt rest j (tLamp x σ).2) (some (.int (tLamp x σ).1)) := by
  refine zM_of "CoastLamps$Lamp" rfl (by decide) (Nat.le_of_ble_eq_true rfl) ?_
  intro p e s m below meth c ls E hP hK hD hS hl
  obtain ⟨hx, hb, hml, ho, hts, hr, hlk⟩ := id E
  have hl : lv_has ls 2 [(0, .ref aL), (1, .int x)] := hl
  refine lv_aload_n hx hb d_Lamp_tend_0 rfl (lv_at hl 0 rfl) ?_
  refine zget (ci := k) (fs := [.ref aC, .int kd, .int ht, .int tk, .int σ.1, .int lt]) E hK hP (j + 3) (zg hj) (zC_K hk) 0 (by decide) kw_97 (Or.inl rfl) rfl d_Lamp_tend_1 ?_
  refine lv_iconst (v := 0) hx hb d_Lamp_tend_4 (by decide) ?_
  refine lv_iconst (v := 3) hx hb d_Lamp_tend_5 (by decide) ?_
  refine zcV (As := [.int 0, .int 3]) (rest := []) (ci := 9) E cy_Coast_begins kw_293 kw_294 kw_334 (c_Coast_begins l dC dI c1 c2 c3 A aC aD aE d (rest.set j (wL aC aL k kd ht tk σ.1 lt)) σ.2 0 3 3 (by decide)) hK hP hD hS 0 rfl zC_Coast.1 rfl rfl hl.1 rfl (Nat.le_of_ble_eq_true rfl) ⟨Nat.le_of_ble_eq_true rfl, Nat.le_of_ble_eq_true rfl⟩ d_Lamp_tend_6 ⟨Nat.le_refl _, Nat.le_refl _⟩ (fun H locs hP hD hS => ?_)
  have hP : va_P (dC, dI) classes (wl c1 c2 aC aD aE aL k d kd ht tk lt rest j (σ.1, tb 3 σ.2)) H := hP
  have hD : va_D A (wl c1 c2 aC aD aE aL k d kd ht tk lt rest j (σ.1, tb 3 σ.2)) := hD
  refine lv_aload_n hx hb d_Lamp_tend_9 rfl (lv_at hl 0 rfl) ?_
  refine lv_aload_n hx hb d_Lamp_tend_10 rfl (lv_at hl 0 rfl) ?_
  refine zget (ci := k) (fs := [.ref aC, .int kd, .int ht, .int tk, .int σ.1, .int lt]) E hK hP (j + 3) (zg hj) (zC_K hk) 4 (by decide) kw_128 (Or.inl rfl) rfl d_Lamp_tend_11 ?_
  refine lv_iload_n hx hb d_Lamp_tend_14 rfl (lv_at hl 1 rfl) ?_
  refine lv_isub hx hb d_Lamp_tend_15 ?_
  refine lv_iconst (v := 0) hx hb d_Lamp_tend_16 (by decide) ?_
  refine zmax E hl.1 kw_435 kw_322 kw_14 kw_323 (Nat.le_of_ble_eq_true rfl) (Nat.le_of_ble_eq_true rfl) ⟨Nat.le_refl _, Nat.le_refl _⟩ d_Lamp_tend_17 ?_
  refine zput (ci := k) (fs := [.ref aC, .int kd, .int ht, .int tk, .int σ.1, .int lt]) (ty := .int) (v := .int (if σ.1 - x < 0 then 0 else σ.1 - x)) (ws2 := wl c1 c2 aC aD aE aL k d kd ht tk lt rest j (if σ.1 - x < 0 then 0 else σ.1 - x, tb 3 σ.2)) E hK hP hD hS (j + 3) (zg hj) (zC_K hk) t_Lamp o_Lamp n_Lamp 4 (by decide) kw_128 (Or.inl rfl) rfl rfl rfl rfl (Nat.le_of_ble_eq_true rfl) d_Lamp_tend_20 (zs) (fun H locs hP hD hS => ?_)
  refine lv_aload_n hx hb d_Lamp_tend_23 rfl (lv_at hl 0 rfl) ?_
  refine zget (ci := k) (fs := [.ref aC, .int kd, .int ht, .int tk, .int (if σ.1 - x < 0 then 0 else σ.1 - x), .int lt]) E hK hP (j + 3) (zg hj) (zC_K hk) 4 (by decide) kw_128 (Or.inl rfl) rfl d_Lamp_tend_24 ?_
  exact zri E hK hP hD hS d_Lamp_tend_27
set_option maxHeartbeats 4000000 in
set_option maxRecDepth 100000 in
theorem c_Round_tend (l : Launch) (dC : Nat → ClassId) (dI : Nat → Nat → Nat) (c1 c2 c3 : ClassId) (A : Nat → Prop) (aC aD aE aL k : Nat) (hk : k < 9) (d : Nat → Int32) (kd ht tk lt : Int32) (rest : va_W) (j : Nat) (hj : j < rest.length) (σ : zS) (x : Int32) : zM l y_Round_tend b_Round_tend 2 (some (FieldType.int)) 2 43 [.ref aL, .int x] (dC, dI) (t3 c1 c2 c3) A (wl c1 c2 aC aD aE aL k d kd ht tk lt rest j σ) (wl c1 c2 aC aD aE aL k d kd ht tk lt rest j (tRound x σ).2) (some (.int (tRound x σ).1)) := by
  refine zM_of "CoastLamps$Round" rfl (by decide) (Nat.le_of_ble_eq_true rfl) ?_
  intro p e s m below meth c ls E hP hK hD hS hl
  obtain ⟨hx, hb, hml, ho, hts, hr, hlk⟩ := id E
  have hl : lv_has ls 2 [(0, .ref aL), (1, .int x)] := hl
  refine lv_aload_n hx hb d_Round_tend_0 rfl (lv_at hl 0 rfl) ?_
  refine zget (ci := k) (fs := [.ref aC, .int kd, .int ht, .int tk, .int σ.1, .int lt]) E hK hP (j + 3) (zg hj) (zC_K hk) 0 (by decide) kw_110 (Or.inr kw_111) rfl d_Round_tend_1 ?_
  refine lv_iconst (v := 2) hx hb d_Round_tend_4 (by decide) ?_
  refine lv_iconst (v := 3) hx hb d_Round_tend_5 (by decide) ?_
  refine zcV (As := [.int 2, .int 3]) (rest := []) (ci := 9) E cy_Coast_begins kw_293 kw_294 kw_360 (c_Coast_begins l dC dI c1 c2 c3 A aC aD aE d (rest.set j (wL aC aL k kd ht tk σ.1 lt)) σ.2 2 3 23 (by decide)) hK hP hD hS 0 rfl zC_Coast.1 rfl rfl hl.1 rfl (Nat.le_of_ble_eq_true rfl) ⟨Nat.le_of_ble_eq_true rfl, Nat.le_of_ble_eq_true rfl⟩ d_Round_tend_6 ⟨Nat.le_refl _, Nat.le_refl _⟩ (fun H locs hP hD hS => ?_)
  have hP : va_P (dC, dI) classes (wl c1 c2 aC aD aE aL k d kd ht tk lt rest j (σ.1, tb 23 σ.2)) H := hP
  have hD : va_D A (wl c1 c2 aC aD aE aL k d kd ht tk lt rest j (σ.1, tb 23 σ.2)) := hD
  refine lv_aload_n hx hb d_Round_tend_9 rfl (lv_at hl 0 rfl) ?_
  refine lv_iload_n hx hb d_Round_tend_10 rfl (lv_at hl 1 rfl) ?_
  refine zcP (x := ⟨"CoastLamps$Oil", "tend", "(I)I"⟩) (As := [.int x]) (rest := []) (ci := k) E cy_Lamp_tend kw_407 kw_426 ⟨rfl, rfl, by decide⟩ kw_159 (fun a1 g1 h1 h2 => z_sub1 (hts _ kw_146) h1 h2) kw_425 (c_Lamp_tend l dC dI c1 c2 c3 A aC aD aE aL k hk d kd ht tk lt rest j hj (σ.1, tb 23 σ.2) x) hK hP hD hS (j + 3) (zg hj) (zC_K hk).1 rfl hl.1 rfl (Nat.le_of_ble_eq_true rfl) ⟨Nat.le_of_ble_eq_true rfl, Nat.le_of_ble_eq_true rfl⟩ d_Round_tend_11 ⟨Nat.le_refl _, Nat.le_refl _⟩ (fun H locs hP hD hS => ?_)
  have hP : va_P (dC, dI) classes (wl c1 c2 aC aD aE aL k d kd ht tk lt rest j ((tLamp x (σ.1, tb 23 σ.2)).2)) H := hP
  have hD : va_D A (wl c1 c2 aC aD aE aL k d kd ht tk lt rest j ((tLamp x (σ.1, tb 23 σ.2)).2)) := hD
  refine lv_pop hx hb d_Round_tend_14 rfl ?_
  refine lv_aload_n hx hb d_Round_tend_15 rfl (lv_at hl 0 rfl) ?_
  refine lv_iload_n hx hb d_Round_tend_16 rfl (lv_at hl 1 rfl) ?_
  refine lv_iconst (v := 2) hx hb d_Round_tend_17 (by decide) ?_
  refine lv_idiv hx hb d_Round_tend_18 (by decide) ?_
  refine zcP (x := ⟨"CoastLamps$Oil", "tend", "(I)I"⟩) (As := [.int (x / 2)]) (rest := []) (ci := k) E cy_Lamp_tend kw_407 kw_426 ⟨rfl, rfl, by decide⟩ kw_159 (fun a1 g1 h1 h2 => z_sub1 (hts _ kw_146) h1 h2) kw_425 (c_Lamp_tend l dC dI c1 c2 c3 A aC aD aE aL k hk d kd ht tk lt rest j hj ((tLamp x (σ.1, tb 23 σ.2)).2) (x / 2)) hK hP hD hS (j + 3) (zg hj) (zC_K hk).1 rfl hl.1 rfl (Nat.le_of_ble_eq_true rfl) ⟨Nat.le_of_ble_eq_true rfl, Nat.le_of_ble_eq_true rfl⟩ d_Round_tend_19 ⟨Nat.le_refl _, Nat.le_refl _⟩ (fun H locs hP hD hS => ?_)
  have hP : va_P (dC, dI) classes (wl c1 c2 aC aD aE aL k d kd ht tk lt rest j ((tLamp (x / 2) ((tLamp x (σ.1, tb 23 σ.2)).2)).2)) H := hP
  have hD : va_D A (wl c1 c2 aC aD aE aL k d kd ht tk lt rest j ((tLamp (x / 2) ((tLamp x (σ.1, tb 23 σ.2)).2)).2)) := hD
  exact zri E hK hP hD hS d_Round_tend_22
set_option maxHeartbeats 4000000 in
set_option maxRecDepth 100000 in
theorem c_Drum_tend (l : Launch) (dC : Nat → ClassId) (dI : Nat → Nat → Nat) (c1 c2 c3 : ClassId) (A : Nat → Prop) (aC aD aE aL k : Nat) (hk : k < 9) (d : Nat → Int32) (kd ht tk lt : Int32) (rest : va_W) (j : Nat) (hj : j < rest.length) (σ : zS) (x : Int32) : zM l y_Drum_tend b_Drum_tend 2 (some (FieldType.int)) 3 64 [.ref aL, .int x] (dC, dI) (t3 c1 c2 c3) A (wl c1 c2 aC aD aE aL k d kd ht tk lt rest j σ) (wl c1 c2 aC aD aE aL k d kd ht tk lt rest j (tDrum d x σ).2) (some (.int (tDrum d x σ).1)) := by
  refine zM_of "CoastLamps$Drum" rfl (by decide) (Nat.le_of_ble_eq_true rfl) ?_
  intro p e s m below meth c ls E hP hK hD hS hl
  obtain ⟨hx, hb, hml, ho, hts, hr, hlk⟩ := id E
  have hl : lv_has ls 2 [(0, .ref aL), (1, .int x)] := hl
  refine lv_aload_n hx hb d_Drum_tend_0 rfl (lv_at hl 0 rfl) ?_
  refine zget (ci := k) (fs := [.ref aC, .int kd, .int ht, .int tk, .int σ.1, .int lt]) E hK hP (j + 3) (zg hj) (zC_K hk) 0 (by decide) kw_108 (Or.inr kw_109) rfl d_Drum_tend_1 ?_
  refine lv_iconst (v := 4) hx hb d_Drum_tend_4 (by decide) ?_
  refine lv_iconst (v := 3) hx hb d_Drum_tend_5 (by decide) ?_
  refine zcV (As := [.int 4, .int 3]) (rest := []) (ci := 9) E cy_Coast_begins kw_293 kw_294 kw_353 (c_Coast_begins l dC dI c1 c2 c3 A aC aD aE d (rest.set j (wL aC aL k kd ht tk σ.1 lt)) σ.2 4 3 43 (by decide)) hK hP hD hS 0 rfl zC_Coast.1 rfl rfl hl.1 rfl (Nat.le_of_ble_eq_true rfl) ⟨Nat.le_of_ble_eq_true rfl, Nat.le_of_ble_eq_true rfl⟩ d_Drum_tend_6 ⟨Nat.le_refl _, Nat.le_refl _⟩ (fun H locs hP hD hS => ?_)
  have hP : va_P (dC, dI) classes (wl c1 c2 aC aD aE aL k d kd ht tk lt rest j (σ.1, tb 43 σ.2)) H := hP
  have hD : va_D A (wl c1 c2 aC aD aE aL k d kd ht tk lt rest j (σ.1, tb 43 σ.2)) := hD
  refine lv_aload_n hx hb d_Drum_tend_9 rfl (lv_at hl 0 rfl) ?_
  refine lv_iload_n hx hb d_Drum_tend_10 rfl (lv_at hl 1 rfl) ?_
  refine lv_aload_n hx hb d_Drum_tend_11 rfl (lv_at hl 0 rfl) ?_
  refine zget (ci := k) (fs := [.ref aC, .int kd, .int ht, .int tk, .int σ.1, .int lt]) E hK hP (j + 3) (zg hj) (zC_K hk) 0 (by decide) kw_108 (Or.inr kw_109) rfl d_Drum_tend_12 ?_
  refine lv_iconst (v := 3) hx hb d_Drum_tend_15 (by decide) ?_
  refine zcV (As := [.int 3]) (rest := [.int x, .ref aL]) (ci := 9) E cy_Coast_dialed kw_73 kw_74 kw_419 (c_Coast_dialed l dC dI c1 c2 c3 A aC aD aE d (rest.set j (wL aC aL k kd ht tk σ.1 lt)) (tb 43 σ.2) 3 3 (by decide) (by decide)) hK hP hD hS 0 rfl zC_Coast.1 rfl rfl hl.1 rfl (Nat.le_of_ble_eq_true rfl) ⟨Nat.le_of_ble_eq_true rfl, Nat.le_of_ble_eq_true rfl⟩ d_Drum_tend_16 ⟨Nat.le_refl _, Nat.le_refl _⟩ (fun H locs hP hD hS => ?_)
  have hP : va_P (dC, dI) classes (wl c1 c2 aC aD aE aL k d kd ht tk lt rest j (σ.1, tb 43 σ.2)) H := hP
  have hD : va_D A (wl c1 c2 aC aD aE aL k d kd ht tk lt rest j (σ.1, tb 43 σ.2)) := hD
  refine lv_iadd hx hb d_Drum_tend_19 ?_
  refine zcP (x := ⟨"CoastLamps$Twin", "tend", "(I)I"⟩) (As := [.int (x + (d 3))]) (rest := []) (ci := k) E cy_Round_tend kw_423 kw_421 ⟨rfl, rfl, by decide⟩ kw_185 (fun a1 g1 h1 h2 => z_sub1 (hts _ kw_172) h1 h2) kw_420 (c_Round_tend l dC dI c1 c2 c3 A aC aD aE aL k hk d kd ht tk lt rest j hj (σ.1, tb 43 σ.2) (x + (d 3))) hK hP hD hS (j + 3) (zg hj) (zC_K hk).1 rfl hl.1 rfl (Nat.le_of_ble_eq_true rfl) ⟨Nat.le_of_ble_eq_true rfl, Nat.le_of_ble_eq_true rfl⟩ d_Drum_tend_20 ⟨Nat.le_refl _, Nat.le_refl _⟩ (fun H locs hP hD hS => ?_)
  have hP : va_P (dC, dI) classes (wl c1 c2 aC aD aE aL k d kd ht tk lt rest j ((tRound (x + (d 3)) (σ.1, tb 43 σ.2)).2)) H := hP
  have hD : va_D A (wl c1 c2 aC aD aE aL k d kd ht tk lt rest j ((tRound (x + (d 3)) (σ.1, tb 43 σ.2)).2)) := hD
  exact zri E hK hP hD hS d_Drum_tend_23
set_option maxHeartbeats 4000000 in
set_option maxRecDepth 100000 in
theorem c_Buoy_tend (l : Launch) (dC : Nat → ClassId) (dI : Nat → Nat → Nat) (c1 c2 c3 : ClassId) (A : Nat → Prop) (aC aD aE aL k : Nat) (hk : k < 9) (d : Nat → Int32) (kd ht tk lt : Int32) (rest : va_W) (j : Nat) (hj : j < rest.length) (σ : zS) (x : Int32) : zM l y_Buoy_tend b_Buoy_tend 3 (some (FieldType.int)) 2 43 [.ref aL, .int x] (dC, dI) (t3 c1 c2 c3) A (wl c1 c2 aC aD aE aL k d kd ht tk lt rest j σ) (wl c1 c2 aC aD aE aL k d kd ht tk lt rest j (tBuoy d x σ).2) (some (.int (tBuoy d x σ).1)) := by
  by_cases h1 : d 4 = 0
  · have e9 : tBuoy d x σ = tLamp x (σ.1, tb 83 σ.2) := by unfold tBuoy; rw [if_pos h1]
    rw [e9]
    refine zM_of "CoastLamps$Buoy" rfl (by decide) (Nat.le_of_ble_eq_true rfl) ?_
    intro p e s m below meth c ls E hP hK hD hS hl
    obtain ⟨hx, hb, hml, ho, hts, hr, hlk⟩ := id E
    have hl : lv_has ls 3 [(0, .ref aL), (1, .int x)] := hl
    refine lv_aload_n hx hb d_Buoy_tend_0 rfl (lv_at hl 0 rfl) ?_
    refine zget (ci := k) (fs := [.ref aC, .int kd, .int ht, .int tk, .int σ.1, .int lt]) E hK hP (j + 3) (zg hj) (zC_K hk) 0 (by decide) kw_104 (Or.inr kw_105) rfl d_Buoy_tend_1 ?_
    refine lv_bipush (v := 8) hx hb d_Buoy_tend_4 (by decide) ?_
    refine lv_iconst (v := 3) hx hb d_Buoy_tend_6 (by decide) ?_
    refine zcV (As := [.int 8, .int 3]) (rest := []) (ci := 9) E cy_Coast_begins kw_293 kw_294 kw_342 (c_Coast_begins l dC dI c1 c2 c3 A aC aD aE d (rest.set j (wL aC aL k kd ht tk σ.1 lt)) σ.2 8 3 83 (by decide)) hK hP hD hS 0 rfl zC_Coast.1 rfl rfl hl.1 rfl (Nat.le_of_ble_eq_true rfl) ⟨Nat.le_of_ble_eq_true rfl, Nat.le_of_ble_eq_true rfl⟩ d_Buoy_tend_7 ⟨Nat.le_refl _, Nat.le_refl _⟩ (fun H locs hP hD hS => ?_)
    have hP : va_P (dC, dI) classes (wl c1 c2 aC aD aE aL k d kd ht tk lt rest j (σ.1, tb 83 σ.2)) H := hP
    have hD : va_D A (wl c1 c2 aC aD aE aL k d kd ht tk lt rest j (σ.1, tb 83 σ.2)) := hD
    refine lv_aload_n hx hb d_Buoy_tend_10 rfl (lv_at hl 0 rfl) ?_
    refine zget (ci := k) (fs := [.ref aC, .int kd, .int ht, .int tk, .int σ.1, .int lt]) E hK hP (j + 3) (zg hj) (zC_K hk) 0 (by decide) kw_104 (Or.inr kw_105) rfl d_Buoy_tend_11 ?_
    refine lv_iconst (v := 4) hx hb d_Buoy_tend_14 (by decide) ?_
    refine zcV (As := [.int 4]) (rest := []) (ci := 9) E cy_Coast_dialed kw_73 kw_74 kw_412 (c_Coast_dialed l dC dI c1 c2 c3 A aC aD aE d (rest.set j (wL aC aL k kd ht tk σ.1 lt)) (tb 83 σ.2) 4 4 (by decide) (by decide)) hK hP hD hS 0 rfl zC_Coast.1 rfl rfl hl.1 rfl (Nat.le_of_ble_eq_true rfl) ⟨Nat.le_of_ble_eq_true rfl, Nat.le_of_ble_eq_true rfl⟩ d_Buoy_tend_15 ⟨Nat.le_refl _, Nat.le_refl _⟩ (fun H locs hP hD hS => ?_)
    have hP : va_P (dC, dI) classes (wl c1 c2 aC aD aE aL k d kd ht tk lt rest j (σ.1, tb 83 σ.2)) H := hP
    have hD : va_D A (wl c1 c2 aC aD aE aL k d kd ht tk lt rest j (σ.1, tb 83 σ.2)) := hD
    refine lv_istore_n (lv' := [(2, .int (d 4)), (0, .ref aL), (1, .int x)]) hx hb d_Buoy_tend_18 rfl hl (by decide) rfl (fun ls hl => ?_)
    refine lv_iload_n hx hb d_Buoy_tend_19 rfl (lv_at hl 0 rfl) ?_
    refine lv_if_ne (tgt := 31) hx hb d_Buoy_tend_20 (by decide) (fun h9 => absurd (h1) h9) (fun _ => ?_)
    refine lv_aload_n hx hb d_Buoy_tend_23 rfl (lv_at hl 1 rfl) ?_
    refine lv_iload_n hx hb d_Buoy_tend_24 rfl (lv_at hl 2 rfl) ?_
    refine zcP (x := ⟨"CoastLamps$Flare", "tend", "(I)I"⟩) (As := [.int x]) (rest := []) (ci := k) E cy_Lamp_tend kw_407 kw_414 ⟨rfl, rfl, by decide⟩ kw_237 (fun a1 g1 h1 h2 => z_sub2 (hts _ kw_224) (hts _ kw_211) h1 h2) kw_413 (c_Lamp_tend l dC dI c1 c2 c3 A aC aD aE aL k hk d kd ht tk lt rest j hj (σ.1, tb 83 σ.2) x) hK hP hD hS (j + 3) (zg hj) (zC_K hk).1 rfl hl.1 rfl (Nat.le_of_ble_eq_true rfl) ⟨Nat.le_of_ble_eq_true rfl, Nat.le_of_ble_eq_true rfl⟩ d_Buoy_tend_25 ⟨Nat.le_refl _, Nat.le_refl _⟩ (fun H locs hP hD hS => ?_)
    have hP : va_P (dC, dI) classes (wl c1 c2 aC aD aE aL k d kd ht tk lt rest j ((tLamp x (σ.1, tb 83 σ.2)).2)) H := hP
    have hD : va_D A (wl c1 c2 aC aD aE aL k d kd ht tk lt rest j ((tLamp x (σ.1, tb 83 σ.2)).2)) := hD
    refine lv_goto (tgt := 32) hx hb d_Buoy_tend_28 (by decide) ?_
    exact zri E hK hP hD hS d_Buoy_tend_32
  · have e9 : tBuoy d x σ = (d 4, (σ.1, tb 83 σ.2)) := by unfold tBuoy; rw [if_neg h1]
    rw [e9]
    refine zM_of "CoastLamps$Buoy" rfl (by decide) (Nat.le_of_ble_eq_true rfl) ?_
    intro p e s m below meth c ls E hP hK hD hS hl
    obtain ⟨hx, hb, hml, ho, hts, hr, hlk⟩ := id E
    have hl : lv_has ls 3 [(0, .ref aL), (1, .int x)] := hl
    refine lv_aload_n hx hb d_Buoy_tend_0 rfl (lv_at hl 0 rfl) ?_
    refine zget (ci := k) (fs := [.ref aC, .int kd, .int ht, .int tk, .int σ.1, .int lt]) E hK hP (j + 3) (zg hj) (zC_K hk) 0 (by decide) kw_104 (Or.inr kw_105) rfl d_Buoy_tend_1 ?_
    refine lv_bipush (v := 8) hx hb d_Buoy_tend_4 (by decide) ?_
    refine lv_iconst (v := 3) hx hb d_Buoy_tend_6 (by decide) ?_
    refine zcV (As := [.int 8, .int 3]) (rest := []) (ci := 9) E cy_Coast_begins kw_293 kw_294 kw_342 (c_Coast_begins l dC dI c1 c2 c3 A aC aD aE d (rest.set j (wL aC aL k kd ht tk σ.1 lt)) σ.2 8 3 83 (by decide)) hK hP hD hS 0 rfl zC_Coast.1 rfl rfl hl.1 rfl (Nat.le_of_ble_eq_true rfl) ⟨Nat.le_of_ble_eq_true rfl, Nat.le_of_ble_eq_true rfl⟩ d_Buoy_tend_7 ⟨Nat.le_refl _, Nat.le_refl _⟩ (fun H locs hP hD hS => ?_)
    have hP : va_P (dC, dI) classes (wl c1 c2 aC aD aE aL k d kd ht tk lt rest j (σ.1, tb 83 σ.2)) H := hP
    have hD : va_D A (wl c1 c2 aC aD aE aL k d kd ht tk lt rest j (σ.1, tb 83 σ.2)) := hD
    refine lv_aload_n hx hb d_Buoy_tend_10 rfl (lv_at hl 0 rfl) ?_
    refine zget (ci := k) (fs := [.ref aC, .int kd, .int ht, .int tk, .int σ.1, .int lt]) E hK hP (j + 3) (zg hj) (zC_K hk) 0 (by decide) kw_104 (Or.inr kw_105) rfl d_Buoy_tend_11 ?_
    refine lv_iconst (v := 4) hx hb d_Buoy_tend_14 (by decide) ?_
    refine zcV (As := [.int 4]) (rest := []) (ci := 9) E cy_Coast_dialed kw_73 kw_74 kw_412 (c_Coast_dialed l dC dI c1 c2 c3 A aC aD aE d (rest.set j (wL aC aL k kd ht tk σ.1 lt)) (tb 83 σ.2) 4 4 (by decide) (by decide)) hK hP hD hS 0 rfl zC_Coast.1 rfl rfl hl.1 rfl (Nat.le_of_ble_eq_true rfl) ⟨Nat.le_of_ble_eq_true rfl, Nat.le_of_ble_eq_true rfl⟩ d_Buoy_tend_15 ⟨Nat.le_refl _, Nat.le_refl _⟩ (fun H locs hP hD hS => ?_)
    have hP : va_P (dC, dI) classes (wl c1 c2 aC aD aE aL k d kd ht tk lt rest j (σ.1, tb 83 σ.2)) H := hP
    have hD : va_D A (wl c1 c2 aC aD aE aL k d kd ht tk lt rest j (σ.1, tb 83 σ.2)) := hD
    refine lv_istore_n (lv' := [(2, .int (d 4)), (0, .ref aL), (1, .int x)]) hx hb d_Buoy_tend_18 rfl hl (by decide) rfl (fun ls hl => ?_)
    refine lv_iload_n hx hb d_Buoy_tend_19 rfl (lv_at hl 0 rfl) ?_
    refine lv_if_ne (tgt := 31) hx hb d_Buoy_tend_20 (by decide) (fun _ => ?_) (fun h9 => absurd h9 (h1))
    refine lv_iload_n hx hb d_Buoy_tend_31 rfl (lv_at hl 0 rfl) ?_
    exact zri E hK hP hD hS d_Buoy_tend_32
set_option maxHeartbeats 4000000 in
set_option maxRecDepth 100000 in
theorem c_Lamp_rank (l : Launch) (dC : Nat → ClassId) (dI : Nat → Nat → Nat) (c1 c2 c3 : ClassId) (A : Nat → Prop) (aC aD aE aL k : Nat) (hk : k < 9) (d : Nat → Int32) (kd ht tk lt : Int32) (rest : va_W) (j : Nat) (hj : j < rest.length) (σ : zS) : zM l y_Lamp_rank b_Lamp_rank 1 (some (FieldType.int)) 1 22 [.ref aL] (dC, dI) (t3 c1 c2 c3) A (wl c1 c2 aC aD aE aL k d kd ht tk lt rest j σ) (wl c1 c2 aC aD aE aL k d kd ht tk lt rest j (kLamp ht σ).2) (some (.int (kLamp ht σ).1)) := by
  refine zM_of "CoastLamps$Lamp" rfl (by decide) (Nat.le_of_ble_eq_true rfl) ?_
  intro p e s m below meth c ls E hP hK hD hS hl
  obtain ⟨hx, hb, hml, ho, hts, hr, hlk⟩ := id E
  have hl : lv_has ls 1 [(0, .ref aL)] := hl
  refine lv_aload_n hx hb d_Lamp_rank_0 rfl (lv_at hl 0 rfl) ?_
  refine zget (ci := k) (fs := [.ref aC, .int kd, .int ht, .int tk, .int σ.1, .int lt]) E hK hP (j + 3) (zg hj) (zC_K hk) 0 (by decide) kw_97 (Or.inl rfl) rfl d_Lamp_rank_1 ?_
  refine lv_iconst (v := 0) hx hb d_Lamp_rank_4 (by decide) ?_
  refine lv_iconst (v := 4) hx hb d_Lamp_rank_5 (by decide) ?_
  refine zcV (As := [.int 0, .int 4]) (rest := []) (ci := 9) E cy_Coast_begins kw_293 kw_294 kw_334 (c_Coast_begins l dC dI c1 c2 c3 A aC aD aE d (rest.set j (wL aC aL k kd ht tk σ.1 lt)) σ.2 0 4 4 (by decide)) hK hP hD hS 0 rfl zC_Coast.1 rfl rfl hl.1 rfl (Nat.le_of_ble_eq_true rfl) ⟨Nat.le_of_ble_eq_true rfl, Nat.le_of_ble_eq_true rfl⟩ d_Lamp_rank_6 ⟨Nat.le_refl _, Nat.le_refl _⟩ (fun H locs hP hD hS => ?_)
  have hP : va_P (dC, dI) classes (wl c1 c2 aC aD aE aL k d kd ht tk lt rest j (σ.1, tb 4 σ.2)) H := hP
  have hD : va_D A (wl c1 c2 aC aD aE aL k d kd ht tk lt rest j (σ.1, tb 4 σ.2)) := hD
  refine lv_aload_n hx hb d_Lamp_rank_9 rfl (lv_at hl 0 rfl) ?_
  refine zget (ci := k) (fs := [.ref aC, .int kd, .int ht, .int tk, .int σ.1, .int lt]) E hK hP (j + 3) (zg hj) (zC_K hk) 2 (by decide) kw_118 (Or.inl rfl) rfl d_Lamp_rank_10 ?_
  refine lv_bipush (v := 9) hx hb d_Lamp_rank_13 (by decide) ?_
  refine lv_irem hx hb d_Lamp_rank_15 (by decide) ?_
  exact zri E hK hP hD hS d_Lamp_rank_16
set_option maxHeartbeats 4000000 in
set_option maxRecDepth 100000 in
theorem c_Oil_rank (l : Launch) (dC : Nat → ClassId) (dI : Nat → Nat → Nat) (c1 c2 c3 : ClassId) (A : Nat → Prop) (aC aD aE aL k : Nat) (hk : k < 9) (d : Nat → Int32) (kd ht tk lt : Int32) (rest : va_W) (j : Nat) (hj : j < rest.length) (σ : zS) : zM l y_Oil_rank b_Oil_rank 1 (some (FieldType.int)) 2 42 [.ref aL] (dC, dI) (t3 c1 c2 c3) A (wl c1 c2 aC aD aE aL k d kd ht tk lt rest j σ) (wl c1 c2 aC aD aE aL k d kd ht tk lt rest j (kOil ht σ).2) (some (.int (kOil ht σ).1)) := by
  refine zM_of "CoastLamps$Oil" rfl (by decide) (Nat.le_of_ble_eq_true rfl) ?_
  intro p e s m below meth c ls E hP hK hD hS hl
  obtain ⟨hx, hb, hml, ho, hts, hr, hlk⟩ := id E
  have hl : lv_has ls 1 [(0, .ref aL)] := hl
  refine lv_aload_n hx hb d_Oil_rank_0 rfl (lv_at hl 0 rfl) ?_
  refine zget (ci := k) (fs := [.ref aC, .int kd, .int ht, .int tk, .int σ.1, .int lt]) E hK hP (j + 3) (zg hj) (zC_K hk) 0 (by decide) kw_98 (Or.inr kw_99) rfl d_Oil_rank_1 ?_
  refine lv_iconst (v := 1) hx hb d_Oil_rank_4 (by decide) ?_
  refine lv_iconst (v := 4) hx hb d_Oil_rank_5 (by decide) ?_
  refine zcV (As := [.int 1, .int 4]) (rest := []) (ci := 9) E cy_Coast_begins kw_293 kw_294 kw_308 (c_Coast_begins l dC dI c1 c2 c3 A aC aD aE d (rest.set j (wL aC aL k kd ht tk σ.1 lt)) σ.2 1 4 14 (by decide)) hK hP hD hS 0 rfl zC_Coast.1 rfl rfl hl.1 rfl (Nat.le_of_ble_eq_true rfl) ⟨Nat.le_of_ble_eq_true rfl, Nat.le_of_ble_eq_true rfl⟩ d_Oil_rank_6 ⟨Nat.le_refl _, Nat.le_refl _⟩ (fun H locs hP hD hS => ?_)
  have hP : va_P (dC, dI) classes (wl c1 c2 aC aD aE aL k d kd ht tk lt rest j (σ.1, tb 14 σ.2)) H := hP
  have hD : va_D A (wl c1 c2 aC aD aE aL k d kd ht tk lt rest j (σ.1, tb 14 σ.2)) := hD
  refine lv_aload_n hx hb d_Oil_rank_9 rfl (lv_at hl 0 rfl) ?_
  refine zcP (x := ⟨"CoastLamps$Lamp", "rank", "()I"⟩) (As := []) (rest := []) (ci := k) E cy_Lamp_rank kw_437 kw_438 ⟨rfl, rfl, by decide⟩ kw_146 (fun a1 g1 h1 h2 => by cases h1.symm.trans h2; simp [Vm.isSubclass, Vm.isSubclassAux]) kw_453 (c_Lamp_rank l dC dI c1 c2 c3 A aC aD aE aL k hk d kd ht tk lt rest j hj (σ.1, tb 14 σ.2)) hK hP hD hS (j + 3) (zg hj) (zC_K hk).1 rfl hl.1 rfl (Nat.le_of_ble_eq_true rfl) ⟨Nat.le_of_ble_eq_true rfl, Nat.le_of_ble_eq_true rfl⟩ d_Oil_rank_10 ⟨Nat.le_refl _, Nat.le_refl _⟩ (fun H locs hP hD hS => ?_)
  have hP : va_P (dC, dI) classes (wl c1 c2 aC aD aE aL k d kd ht tk lt rest j ((kLamp ht (σ.1, tb 14 σ.2)).2)) H := hP
  have hD : va_D A (wl c1 c2 aC aD aE aL k d kd ht tk lt rest j ((kLamp ht (σ.1, tb 14 σ.2)).2)) := hD
  refine lv_iconst (v := 1) hx hb d_Oil_rank_13 (by decide) ?_
  refine lv_iadd hx hb d_Oil_rank_14 ?_
  exact zri E hK hP hD hS d_Oil_rank_15
set_option maxHeartbeats 4000000 in
set_option maxRecDepth 100000 in
theorem c_Drum_rank (l : Launch) (dC : Nat → ClassId) (dI : Nat → Nat → Nat) (c1 c2 c3 : ClassId) (A : Nat → Prop) (aC aD aE aL k : Nat) (hk : k < 9) (d : Nat → Int32) (kd ht tk lt : Int32) (rest : va_W) (j : Nat) (hj : j < rest.length) (σ : zS) : zM l y_Drum_rank b_Drum_rank 1 (some (FieldType.int)) 3 62 [.ref aL] (dC, dI) (t3 c1 c2 c3) A (wl c1 c2 aC aD aE aL k d kd ht tk lt rest j σ) (wl c1 c2 aC aD aE aL k d kd ht tk lt rest j (kDrum ht σ).2) (some (.int (kDrum ht σ).1)) := by
  refine zM_of "CoastLamps$Drum" rfl (by decide) (Nat.le_of_ble_eq_true rfl) ?_
  intro p e s m below meth c ls E hP hK hD hS hl
  obtain ⟨hx, hb, hml, ho, hts, hr, hlk⟩ := id E
  have hl : lv_has ls 1 [(0, .ref aL)] := hl
  refine lv_aload_n hx hb d_Drum_rank_0 rfl (lv_at hl 0 rfl) ?_
  refine zget (ci := k) (fs := [.ref aC, .int kd, .int ht, .int tk, .int σ.1, .int lt]) E hK hP (j + 3) (zg hj) (zC_K hk) 0 (by decide) kw_108 (Or.inr kw_109) rfl d_Drum_rank_1 ?_
  refine lv_iconst (v := 4) hx hb d_Drum_rank_4 (by decide) ?_
  refine lv_iconst (v := 4) hx hb d_Drum_rank_5 (by decide) ?_
  refine zcV (As := [.int 4, .int 4]) (rest := []) (ci := 9) E cy_Coast_begins kw_293 kw_294 kw_353 (c_Coast_begins l dC dI c1 c2 c3 A aC aD aE d (rest.set j (wL aC aL k kd ht tk σ.1 lt)) σ.2 4 4 44 (by decide)) hK hP hD hS 0 rfl zC_Coast.1 rfl rfl hl.1 rfl (Nat.le_of_ble_eq_true rfl) ⟨Nat.le_of_ble_eq_true rfl, Nat.le_of_ble_eq_true rfl⟩ d_Drum_rank_6 ⟨Nat.le_refl _, Nat.le_refl _⟩ (fun H locs hP hD hS => ?_)
  have hP : va_P (dC, dI) classes (wl c1 c2 aC aD aE aL k d kd ht tk lt rest j (σ.1, tb 44 σ.2)) H := hP
  have hD : va_D A (wl c1 c2 aC aD aE aL k d kd ht tk lt rest j (σ.1, tb 44 σ.2)) := hD
  refine lv_iconst (v := 2) hx hb d_Drum_rank_9 (by decide) ?_
  refine lv_aload_n hx hb d_Drum_rank_10 rfl (lv_at hl 0 rfl) ?_
  refine zcP (x := ⟨"CoastLamps$Twin", "rank", "()I"⟩) (As := []) (rest := [.int 2]) (ci := k) E cy_Oil_rank kw_451 kw_449 ⟨rfl, rfl, by decide⟩ kw_185 (fun a1 g1 h1 h2 => z_sub2 (hts _ kw_172) (hts _ kw_159) h1 h2) kw_448 (c_Oil_rank l dC dI c1 c2 c3 A aC aD aE aL k hk d kd ht tk lt rest j hj (σ.1, tb 44 σ.2)) hK hP hD hS (j + 3) (zg hj) (zC_K hk).1 rfl hl.1 rfl (Nat.le_of_ble_eq_true rfl) ⟨Nat.le_of_ble_eq_true rfl, Nat.le_of_ble_eq_true rfl⟩ d_Drum_rank_11 ⟨Nat.le_refl _, Nat.le_refl _⟩ (fun H locs hP hD hS => ?_)
  have hP : va_P (dC, dI) classes (wl c1 c2 aC aD aE aL k d kd ht tk lt rest j ((kOil ht (σ.1, tb 44 σ.2)).2)) H := hP
  have hD : va_D A (wl c1 c2 aC aD aE aL k d kd ht tk lt rest j ((kOil ht (σ.1, tb 44 σ.2)).2)) := hD
  refine lv_imul hx hb d_Drum_rank_14 ?_
  exact zri E hK hP hD hS d_Drum_rank_15
set_option maxHeartbeats 4000000 in
set_option maxRecDepth 100000 in
theorem c_Flare_rank (l : Launch) (dC : Nat → ClassId) (dI : Nat → Nat → Nat) (c1 c2 c3 : ClassId) (A : Nat → Prop) (aC aD aE aL k : Nat) (hk : k < 9) (d : Nat → Int32) (kd ht tk lt : Int32) (rest : va_W) (j : Nat) (hj : j < rest.length) (σ : zS) : zM l y_Flare_rank b_Flare_rank 1 (some (FieldType.int)) 2 42 [.ref aL] (dC, dI) (t3 c1 c2 c3) A (wl c1 c2 aC aD aE aL k d kd ht tk lt rest j σ) (wl c1 c2 aC aD aE aL k d kd ht tk lt rest j (kFlare ht σ).2) (some (.int (kFlare ht σ).1)) := by
  refine zM_of "CoastLamps$Flare" rfl (by decide) (Nat.le_of_ble_eq_true rfl) ?_
  intro p e s m below meth c ls E hP hK hD hS hl
  obtain ⟨hx, hb, hml, ho, hts, hr, hlk⟩ := id E
  have hl : lv_has ls 1 [(0, .ref aL)] := hl
  refine lv_aload_n hx hb d_Flare_rank_0 rfl (lv_at hl 0 rfl) ?_
  refine zget (ci := k) (fs := [.ref aC, .int kd, .int ht, .int tk, .int σ.1, .int lt]) E hK hP (j + 3) (zg hj) (zC_K hk) 0 (by decide) kw_112 (Or.inr kw_113) rfl d_Flare_rank_1 ?_
  refine lv_bipush (v := 7) hx hb d_Flare_rank_4 (by decide) ?_
  refine lv_iconst (v := 4) hx hb d_Flare_rank_6 (by decide) ?_
  refine zcV (As := [.int 7, .int 4]) (rest := []) (ci := 9) E cy_Coast_begins kw_293 kw_294 kw_292 (c_Coast_begins l dC dI c1 c2 c3 A aC aD aE d (rest.set j (wL aC aL k kd ht tk σ.1 lt)) σ.2 7 4 74 (by decide)) hK hP hD hS 0 rfl zC_Coast.1 rfl rfl hl.1 rfl (Nat.le_of_ble_eq_true rfl) ⟨Nat.le_of_ble_eq_true rfl, Nat.le_of_ble_eq_true rfl⟩ d_Flare_rank_7 ⟨Nat.le_refl _, Nat.le_refl _⟩ (fun H locs hP hD hS => ?_)
  have hP : va_P (dC, dI) classes (wl c1 c2 aC aD aE aL k d kd ht tk lt rest j (σ.1, tb 74 σ.2)) H := hP
  have hD : va_D A (wl c1 c2 aC aD aE aL k d kd ht tk lt rest j (σ.1, tb 74 σ.2)) := hD
  refine lv_aload_n hx hb d_Flare_rank_10 rfl (lv_at hl 0 rfl) ?_
  refine zcP (x := ⟨"CoastLamps$Gas", "rank", "()I"⟩) (As := []) (rest := []) (ci := k) E cy_Lamp_rank kw_437 kw_443 ⟨rfl, rfl, by decide⟩ kw_224 (fun a1 g1 h1 h2 => z_sub1 (hts _ kw_211) h1 h2) kw_442 (c_Lamp_rank l dC dI c1 c2 c3 A aC aD aE aL k hk d kd ht tk lt rest j hj (σ.1, tb 74 σ.2)) hK hP hD hS (j + 3) (zg hj) (zC_K hk).1 rfl hl.1 rfl (Nat.le_of_ble_eq_true rfl) ⟨Nat.le_of_ble_eq_true rfl, Nat.le_of_ble_eq_true rfl⟩ d_Flare_rank_11 ⟨Nat.le_refl _, Nat.le_refl _⟩ (fun H locs hP hD hS => ?_)
  have hP : va_P (dC, dI) classes (wl c1 c2 aC aD aE aL k d kd ht tk lt rest j ((kLamp ht (σ.1, tb 74 σ.2)).2)) H := hP
  have hD : va_D A (wl c1 c2 aC aD aE aL k d kd ht tk lt rest j ((kLamp ht (σ.1, tb 74 σ.2)).2)) := hD
  refine lv_aload_n hx hb d_Flare_rank_14 rfl (lv_at hl 0 rfl) ?_
  refine zget (ci := k) (fs := [.ref aC, .int kd, .int ht, .int tk, .int (((kLamp ht (σ.1, tb 74 σ.2)).2).1), .int lt]) E hK hP (j + 3) (zg hj) (zC_K hk) 4 (by decide) kw_129 (Or.inr kw_130) rfl d_Flare_rank_15 ?_
  refine lv_iconst (v := 5) hx hb d_Flare_rank_18 (by decide) ?_
  refine lv_irem hx hb d_Flare_rank_19 (by decide) ?_
  refine lv_iadd hx hb d_Flare_rank_20 ?_
  exact zri E hK hP hD hS d_Flare_rank_21
set_option maxHeartbeats 4000000 in
set_option maxRecDepth 100000 in
theorem c_Outer_rank (l : Launch) (dC : Nat → ClassId) (dI : Nat → Nat → Nat) (c1 c2 c3 : ClassId) (A : Nat → Prop) (aC aD aE aL k : Nat) (hk : k < 9) (d : Nat → Int32) (kd ht tk lt : Int32) (rest : va_W) (j : Nat) (hj : j < rest.length) (σ : zS) : zM l y_Outer_rank b_Outer_rank 1 (some (FieldType.int)) 3 62 [.ref aL] (dC, dI) (t3 c1 c2 c3) A (wl c1 c2 aC aD aE aL k d kd ht tk lt rest j σ) (wl c1 c2 aC aD aE aL k d kd ht tk lt rest j (kOuter ht tk σ).2) (some (.int (kOuter ht tk σ).1)) := by
  refine zM_of "CoastLamps$Outer" rfl (by decide) (Nat.le_of_ble_eq_true rfl) ?_
  intro p e s m below meth c ls E hP hK hD hS hl
  obtain ⟨hx, hb, hml, ho, hts, hr, hlk⟩ := id E
  have hl : lv_has ls 1 [(0, .ref aL)] := hl
  refine lv_aload_n hx hb d_Outer_rank_0 rfl (lv_at hl 0 rfl) ?_
  refine zget (ci := k) (fs := [.ref aC, .int kd, .int ht, .int tk, .int σ.1, .int lt]) E hK hP (j + 3) (zg hj) (zC_K hk) 0 (by decide) kw_100 (Or.inr kw_101) rfl d_Outer_rank_1 ?_
  refine lv_bipush (v := 9) hx hb d_Outer_rank_4 (by decide) ?_
  refine lv_iconst (v := 4) hx hb d_Outer_rank_6 (by decide) ?_
  refine zcV (As := [.int 9, .int 4]) (rest := []) (ci := 9) E cy_Coast_begins kw_293 kw_294 kw_316 (c_Coast_begins l dC dI c1 c2 c3 A aC aD aE d (rest.set j (wL aC aL k kd ht tk σ.1 lt)) σ.2 9 4 94 (by decide)) hK hP hD hS 0 rfl zC_Coast.1 rfl rfl hl.1 rfl (Nat.le_of_ble_eq_true rfl) ⟨Nat.le_of_ble_eq_true rfl, Nat.le_of_ble_eq_true rfl⟩ d_Outer_rank_7 ⟨Nat.le_refl _, Nat.le_refl _⟩ (fun H locs hP hD hS => ?_)
  have hP : va_P (dC, dI) classes (wl c1 c2 aC aD aE aL k d kd ht tk lt rest j (σ.1, tb 94 σ.2)) H := hP
  have hD : va_D A (wl c1 c2 aC aD aE aL k d kd ht tk lt rest j (σ.1, tb 94 σ.2)) := hD
  refine lv_aload_n hx hb d_Outer_rank_10 rfl (lv_at hl 0 rfl) ?_
  refine zcP (x := ⟨"CoastLamps$Buoy", "rank", "()I"⟩) (As := []) (rest := []) (ci := k) E cy_Flare_rank kw_440 kw_461 ⟨rfl, rfl, by decide⟩ kw_250 (fun a1 g1 h1 h2 => z_sub1 (hts _ kw_237) h1 h2) kw_460 (c_Flare_rank l dC dI c1 c2 c3 A aC aD aE aL k hk d kd ht tk lt rest j hj (σ.1, tb 94 σ.2)) hK hP hD hS (j + 3) (zg hj) (zC_K hk).1 rfl hl.1 rfl (Nat.le_of_ble_eq_true rfl) ⟨Nat.le_of_ble_eq_true rfl, Nat.le_of_ble_eq_true rfl⟩ d_Outer_rank_11 ⟨Nat.le_refl _, Nat.le_refl _⟩ (fun H locs hP hD hS => ?_)
  have hP : va_P (dC, dI) classes (wl c1 c2 aC aD aE aL k d kd ht tk lt rest j ((kFlare ht (σ.1, tb 94 σ.2)).2)) H := hP
  have hD : va_D A (wl c1 c2 aC aD aE aL k d kd ht tk lt rest j ((kFlare ht (σ.1, tb 94 σ.2)).2)) := hD
  refine lv_aload_n hx hb d_Outer_rank_14 rfl (lv_at hl 0 rfl) ?_
  refine zget (ci := k) (fs := [.ref aC, .int kd, .int ht, .int tk, .int (((kFlare ht (σ.1, tb 94 σ.2)).2).1), .int lt]) E hK hP (j + 3) (zg hj) (zC_K hk) 3 (by decide) kw_121 (Or.inr kw_122) rfl d_Outer_rank_15 ?_
  refine lv_iconst (v := 3) hx hb d_Outer_rank_18 (by decide) ?_
  refine lv_irem hx hb d_Outer_rank_19 (by decide) ?_
  refine lv_iadd hx hb d_Outer_rank_20 ?_
  exact zri E hK hP hD hS d_Outer_rank_21
set_option maxHeartbeats 4000000 in
set_option maxRecDepth 100000 in
theorem c_Oil_tone (l : Launch) (dC : Nat → ClassId) (dI : Nat → Nat → Nat) (c1 c2 c3 : ClassId) (A : Nat → Prop) (aC aD aE aL k : Nat) (hk : k < 9) (d : Nat → Int32) (kd ht tk lt : Int32) (rest : va_W) (j : Nat) (hj : j < rest.length) (σ : zS) : zM l y_Oil_tone b_Oil_tone 1 (some (FieldType.int)) 1 22 [.ref aL] (dC, dI) (t3 c1 c2 c3) A (wl c1 c2 aC aD aE aL k d kd ht tk lt rest j σ) (wl c1 c2 aC aD aE aL k d kd ht tk lt rest j (oOil σ).2) (some (.int (oOil σ).1)) := by
  refine zM_of "CoastLamps$Oil" rfl (by decide) (Nat.le_of_ble_eq_true rfl) ?_
  intro p e s m below meth c ls E hP hK hD hS hl
  obtain ⟨hx, hb, hml, ho, hts, hr, hlk⟩ := id E
  have hl : lv_has ls 1 [(0, .ref aL)] := hl
  refine lv_aload_n hx hb d_Oil_tone_0 rfl (lv_at hl 0 rfl) ?_
  refine zget (ci := k) (fs := [.ref aC, .int kd, .int ht, .int tk, .int σ.1, .int lt]) E hK hP (j + 3) (zg hj) (zC_K hk) 0 (by decide) kw_98 (Or.inr kw_99) rfl d_Oil_tone_1 ?_
  refine lv_iconst (v := 1) hx hb d_Oil_tone_4 (by decide) ?_
  refine lv_bipush (v := 6) hx hb d_Oil_tone_5 (by decide) ?_
  refine zcV (As := [.int 1, .int 6]) (rest := []) (ci := 9) E cy_Coast_begins kw_293 kw_294 kw_308 (c_Coast_begins l dC dI c1 c2 c3 A aC aD aE d (rest.set j (wL aC aL k kd ht tk σ.1 lt)) σ.2 1 6 16 (by decide)) hK hP hD hS 0 rfl zC_Coast.1 rfl rfl hl.1 rfl (Nat.le_of_ble_eq_true rfl) ⟨Nat.le_of_ble_eq_true rfl, Nat.le_of_ble_eq_true rfl⟩ d_Oil_tone_7 ⟨Nat.le_refl _, Nat.le_refl _⟩ (fun H locs hP hD hS => ?_)
  have hP : va_P (dC, dI) classes (wl c1 c2 aC aD aE aL k d kd ht tk lt rest j (σ.1, tb 16 σ.2)) H := hP
  have hD : va_D A (wl c1 c2 aC aD aE aL k d kd ht tk lt rest j (σ.1, tb 16 σ.2)) := hD
  refine lv_bipush (v := 7) hx hb d_Oil_tone_10 (by decide) ?_
  exact zri E hK hP hD hS d_Oil_tone_12
set_option maxHeartbeats 4000000 in
set_option maxRecDepth 100000 in
theorem c_Drum_tone (l : Launch) (dC : Nat → ClassId) (dI : Nat → Nat → Nat) (c1 c2 c3 : ClassId) (A : Nat → Prop) (aC aD aE aL k : Nat) (hk : k < 9) (d : Nat → Int32) (kd ht tk lt : Int32) (rest : va_W) (j : Nat) (hj : j < rest.length) (σ : zS) : zM l y_Drum_tone b_Drum_tone 1 (some (FieldType.int)) 2 42 [.ref aL] (dC, dI) (t3 c1 c2 c3) A (wl c1 c2 aC aD aE aL k d kd ht tk lt rest j σ) (wl c1 c2 aC aD aE aL k d kd ht tk lt rest j (oDrum d σ).2) (some (.int (oDrum d σ).1)) := by
  refine zM_of "CoastLamps$Drum" rfl (by decide) (Nat.le_of_ble_eq_true rfl) ?_
  intro p e s m below meth c ls E hP hK hD hS hl
  obtain ⟨hx, hb, hml, ho, hts, hr, hlk⟩ := id E
  have hl : lv_has ls 1 [(0, .ref aL)] := hl
  refine lv_aload_n hx hb d_Drum_tone_0 rfl (lv_at hl 0 rfl) ?_
  refine zget (ci := k) (fs := [.ref aC, .int kd, .int ht, .int tk, .int σ.1, .int lt]) E hK hP (j + 3) (zg hj) (zC_K hk) 0 (by decide) kw_108 (Or.inr kw_109) rfl d_Drum_tone_1 ?_
  refine lv_iconst (v := 4) hx hb d_Drum_tone_4 (by decide) ?_
  refine lv_bipush (v := 6) hx hb d_Drum_tone_5 (by decide) ?_
  refine zcV (As := [.int 4, .int 6]) (rest := []) (ci := 9) E cy_Coast_begins kw_293 kw_294 kw_353 (c_Coast_begins l dC dI c1 c2 c3 A aC aD aE d (rest.set j (wL aC aL k kd ht tk σ.1 lt)) σ.2 4 6 46 (by decide)) hK hP hD hS 0 rfl zC_Coast.1 rfl rfl hl.1 rfl (Nat.le_of_ble_eq_true rfl) ⟨Nat.le_of_ble_eq_true rfl, Nat.le_of_ble_eq_true rfl⟩ d_Drum_tone_7 ⟨Nat.le_refl _, Nat.le_refl _⟩ (fun H locs hP hD hS => ?_)
  have hP : va_P (dC, dI) classes (wl c1 c2 aC aD aE aL k d kd ht tk lt rest j (σ.1, tb 46 σ.2)) H := hP
  have hD : va_D A (wl c1 c2 aC aD aE aL k d kd ht tk lt rest j (σ.1, tb 46 σ.2)) := hD
  refine lv_aload_n hx hb d_Drum_tone_10 rfl (lv_at hl 0 rfl) ?_
  refine zcP (x := ⟨"CoastLamps$Twin", "tone", "()I"⟩) (As := []) (rest := []) (ci := k) E cy_Oil_tone kw_489 kw_487 ⟨rfl, rfl, by decide⟩ kw_185 (fun a1 g1 h1 h2 => z_sub2 (hts _ kw_172) (hts _ kw_159) h1 h2) kw_486 (c_Oil_tone l dC dI c1 c2 c3 A aC aD aE aL k hk d kd ht tk lt rest j hj (σ.1, tb 46 σ.2)) hK hP hD hS (j + 3) (zg hj) (zC_K hk).1 rfl hl.1 rfl (Nat.le_of_ble_eq_true rfl) ⟨Nat.le_of_ble_eq_true rfl, Nat.le_of_ble_eq_true rfl⟩ d_Drum_tone_11 ⟨Nat.le_refl _, Nat.le_refl _⟩ (fun H locs hP hD hS => ?_)
  have hP : va_P (dC, dI) classes (wl c1 c2 aC aD aE aL k d kd ht tk lt rest j ((oOil (σ.1, tb 46 σ.2)).2)) H := hP
  have hD : va_D A (wl c1 c2 aC aD aE aL k d kd ht tk lt rest j ((oOil (σ.1, tb 46 σ.2)).2)) := hD
  refine lv_aload_n hx hb d_Drum_tone_14 rfl (lv_at hl 0 rfl) ?_
  refine zget (ci := k) (fs := [.ref aC, .int kd, .int ht, .int tk, .int (((oOil (σ.1, tb 46 σ.2)).2).1), .int lt]) E hK hP (j + 3) (zg hj) (zC_K hk) 0 (by decide) kw_108 (Or.inr kw_109) rfl d_Drum_tone_15 ?_
  refine lv_iconst (v := 5) hx hb d_Drum_tone_18 (by decide) ?_
  refine zcV (As := [.int 5]) (rest := [.int ((oOil (σ.1, tb 46 σ.2)).1)]) (ci := 9) E cy_Coast_dialed kw_73 kw_74 kw_419 (c_Coast_dialed l dC dI c1 c2 c3 A aC aD aE d (rest.set j (wL aC aL k kd ht tk (((oOil (σ.1, tb 46 σ.2)).2).1) lt)) (((oOil (σ.1, tb 46 σ.2)).2).2) 5 5 (by decide) (by decide)) hK hP hD hS 0 rfl zC_Coast.1 rfl rfl hl.1 rfl (Nat.le_of_ble_eq_true rfl) ⟨Nat.le_of_ble_eq_true rfl, Nat.le_of_ble_eq_true rfl⟩ d_Drum_tone_19 ⟨Nat.le_refl _, Nat.le_refl _⟩ (fun H locs hP hD hS => ?_)
  have hP : va_P (dC, dI) classes (wl c1 c2 aC aD aE aL k d kd ht tk lt rest j ((oOil (σ.1, tb 46 σ.2)).2)) H := hP
  have hD : va_D A (wl c1 c2 aC aD aE aL k d kd ht tk lt rest j ((oOil (σ.1, tb 46 σ.2)).2)) := hD
  refine lv_iadd hx hb d_Drum_tone_22 ?_
  exact zri E hK hP hD hS d_Drum_tone_23
set_option maxHeartbeats 4000000 in
set_option maxRecDepth 100000 in
theorem c_Flare_tone (l : Launch) (dC : Nat → ClassId) (dI : Nat → Nat → Nat) (c1 c2 c3 : ClassId) (A : Nat → Prop) (aC aD aE aL k : Nat) (hk : k < 9) (d : Nat → Int32) (kd ht tk lt : Int32) (rest : va_W) (j : Nat) (hj : j < rest.length) (σ : zS) : zM l y_Flare_tone b_Flare_tone 1 (some (FieldType.int)) 1 22 [.ref aL] (dC, dI) (t3 c1 c2 c3) A (wl c1 c2 aC aD aE aL k d kd ht tk lt rest j σ) (wl c1 c2 aC aD aE aL k d kd ht tk lt rest j (oFlare σ).2) (some (.int (oFlare σ).1)) := by
  refine zM_of "CoastLamps$Flare" rfl (by decide) (Nat.le_of_ble_eq_true rfl) ?_
  intro p e s m below meth c ls E hP hK hD hS hl
  obtain ⟨hx, hb, hml, ho, hts, hr, hlk⟩ := id E
  have hl : lv_has ls 1 [(0, .ref aL)] := hl
  refine lv_aload_n hx hb d_Flare_tone_0 rfl (lv_at hl 0 rfl) ?_
  refine zget (ci := k) (fs := [.ref aC, .int kd, .int ht, .int tk, .int σ.1, .int lt]) E hK hP (j + 3) (zg hj) (zC_K hk) 0 (by decide) kw_112 (Or.inr kw_113) rfl d_Flare_tone_1 ?_
  refine lv_bipush (v := 7) hx hb d_Flare_tone_4 (by decide) ?_
  refine lv_bipush (v := 6) hx hb d_Flare_tone_6 (by decide) ?_
  refine zcV (As := [.int 7, .int 6]) (rest := []) (ci := 9) E cy_Coast_begins kw_293 kw_294 kw_292 (c_Coast_begins l dC dI c1 c2 c3 A aC aD aE d (rest.set j (wL aC aL k kd ht tk σ.1 lt)) σ.2 7 6 76 (by decide)) hK hP hD hS 0 rfl zC_Coast.1 rfl rfl hl.1 rfl (Nat.le_of_ble_eq_true rfl) ⟨Nat.le_of_ble_eq_true rfl, Nat.le_of_ble_eq_true rfl⟩ d_Flare_tone_8 ⟨Nat.le_refl _, Nat.le_refl _⟩ (fun H locs hP hD hS => ?_)
  have hP : va_P (dC, dI) classes (wl c1 c2 aC aD aE aL k d kd ht tk lt rest j (σ.1, tb 76 σ.2)) H := hP
  have hD : va_D A (wl c1 c2 aC aD aE aL k d kd ht tk lt rest j (σ.1, tb 76 σ.2)) := hD
  refine lv_bipush (v := 9) hx hb d_Flare_tone_11 (by decide) ?_
  exact zri E hK hP hD hS d_Flare_tone_13
set_option maxHeartbeats 4000000 in
set_option maxRecDepth 100000 in
theorem c_Outer_tone (l : Launch) (dC : Nat → ClassId) (dI : Nat → Nat → Nat) (c1 c2 c3 : ClassId) (A : Nat → Prop) (aC aD aE aL : Nat) (d : Nat → Int32) (kd ht tk lt : Int32) (rest : va_W) (j : Nat) (hj : j < rest.length) (σ : zS) : zM l y_Outer_tone b_Outer_tone 2 (some (FieldType.int)) 4 82 [.ref aL] (dC, dI) (t3 c1 c2 c3) A (wl c1 c2 aC aD aE aL 8 d kd ht tk lt rest j σ) (wl c1 c2 aC aD aE aL 8 d kd ht tk lt rest j (oOuter ht tk σ).2) (some (.int (oOuter ht tk σ).1)) := by
  refine zM_of "CoastLamps$Outer" rfl (by decide) (Nat.le_of_ble_eq_true rfl) ?_
  intro p e s m below meth c ls E hP hK hD hS hl
  obtain ⟨hx, hb, hml, ho, hts, hr, hlk⟩ := id E
  have hl : lv_has ls 2 [(0, .ref aL)] := hl
  refine lv_aload_n hx hb d_Outer_tone_0 rfl (lv_at hl 0 rfl) ?_
  refine zget (ci := 8) (fs := [.ref aC, .int kd, .int ht, .int tk, .int σ.1, .int lt]) E hK hP (j + 3) (zg hj) (zC_K (by decide)) 0 (by decide) kw_100 (Or.inr kw_101) rfl d_Outer_tone_1 ?_
  refine lv_bipush (v := 9) hx hb d_Outer_tone_4 (by decide) ?_
  refine lv_bipush (v := 6) hx hb d_Outer_tone_6 (by decide) ?_
  refine zcV (As := [.int 9, .int 6]) (rest := []) (ci := 9) E cy_Coast_begins kw_293 kw_294 kw_316 (c_Coast_begins l dC dI c1 c2 c3 A aC aD aE d (rest.set j (wL aC aL 8 kd ht tk σ.1 lt)) σ.2 9 6 96 (by decide)) hK hP hD hS 0 rfl zC_Coast.1 rfl rfl hl.1 rfl (Nat.le_of_ble_eq_true rfl) ⟨Nat.le_of_ble_eq_true rfl, Nat.le_of_ble_eq_true rfl⟩ d_Outer_tone_8 ⟨Nat.le_refl _, Nat.le_refl _⟩ (fun H locs hP hD hS => ?_)
  have hP : va_P (dC, dI) classes (wl c1 c2 aC aD aE aL 8 d kd ht tk lt rest j (σ.1, tb 96 σ.2)) H := hP
  have hD : va_D A (wl c1 c2 aC aD aE aL 8 d kd ht tk lt rest j (σ.1, tb 96 σ.2)) := hD
  refine lv_aload_n hx hb d_Outer_tone_11 rfl (lv_at hl 0 rfl) ?_
  refine zcP (x := ⟨"CoastLamps$Buoy", "tone", "()I"⟩) (As := []) (rest := []) (ci := 8) E cy_Flare_tone kw_497 kw_507 ⟨rfl, rfl, by decide⟩ kw_250 (fun a1 g1 h1 h2 => z_sub1 (hts _ kw_237) h1 h2) kw_506 (c_Flare_tone l dC dI c1 c2 c3 A aC aD aE aL 8 (by decide) d kd ht tk lt rest j hj (σ.1, tb 96 σ.2)) hK hP hD hS (j + 3) (zg hj) (zC_K (by decide)).1 rfl hl.1 rfl (Nat.le_of_ble_eq_true rfl) ⟨Nat.le_of_ble_eq_true rfl, Nat.le_of_ble_eq_true rfl⟩ d_Outer_tone_12 ⟨Nat.le_refl _, Nat.le_refl _⟩ (fun H locs hP hD hS => ?_)
  have hP : va_P (dC, dI) classes (wl c1 c2 aC aD aE aL 8 d kd ht tk lt rest j ((oFlare (σ.1, tb 96 σ.2)).2)) H := hP
  have hD : va_D A (wl c1 c2 aC aD aE aL 8 d kd ht tk lt rest j ((oFlare (σ.1, tb 96 σ.2)).2)) := hD
  refine lv_istore_n (lv' := [(1, .int ((oFlare (σ.1, tb 96 σ.2)).1)), (0, .ref aL)]) hx hb d_Outer_tone_15 rfl hl (by decide) rfl (fun ls hl => ?_)
  refine lv_iload_n hx hb d_Outer_tone_16 rfl (lv_at hl 0 rfl) ?_
  refine lv_aload_n hx hb d_Outer_tone_17 rfl (lv_at hl 1 rfl) ?_
  refine zcV (As := []) (rest := [.int ((oFlare (σ.1, tb 96 σ.2)).1)]) (ci := 8) E cy_Outer_rank kw_458 kw_864 kw_509 (c_Outer_rank l dC dI c1 c2 c3 A aC aD aE aL 8 (by decide) d kd ht tk lt rest j hj ((oFlare (σ.1, tb 96 σ.2)).2)) hK hP hD hS (j + 3) (zg hj) (zC_K (by decide)).1 rfl rfl hl.1 rfl (Nat.le_of_ble_eq_true rfl) ⟨Nat.le_of_ble_eq_true rfl, Nat.le_of_ble_eq_true rfl⟩ d_Outer_tone_18 ⟨Nat.le_refl _, Nat.le_refl _⟩ (fun H locs hP hD hS => ?_)
  have hP : va_P (dC, dI) classes (wl c1 c2 aC aD aE aL 8 d kd ht tk lt rest j ((kOuter ht tk ((oFlare (σ.1, tb 96 σ.2)).2)).2)) H := hP
  have hD : va_D A (wl c1 c2 aC aD aE aL 8 d kd ht tk lt rest j ((kOuter ht tk ((oFlare (σ.1, tb 96 σ.2)).2)).2)) := hD
  refine lv_iadd hx hb d_Outer_tone_21 ?_
  exact zri E hK hP hD hS d_Outer_tone_22
