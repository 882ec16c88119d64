set_option maxHeartbeats 1000000 in
set_option maxRecDepth 100000 in
theorem c_Lamp_horned (l : Launch) (dC : Nat → ClassId) (dI : Nat → Nat → Nat) (c1 c2 c3 : ClassId) (A : Nat → Prop) (aC aD aE aL k : Nat) (hk : k < 9) (d : Nat → Int32) (kd ht tk lt : Int32) (rest : va_W) (j : Nat) (hj : j < rest.length) (σ : zS) : zM l y_Lamp_horned b_Lamp_horned 1 (some (FieldType.boolean)) 0 0 [.ref aL] (dC, dI) (t3 c1 c2 c3) A (wl c1 c2 aC aD aE aL k d kd ht tk lt rest j σ) (wl c1 c2 aC aD aE aL k d kd ht tk lt rest j σ) (some (.int 0)) := by
  refine zM_of "CoastLamps$Lamp" rfl (by decide) (Nat.le_of_ble_eq_true rfl) ?_
  intro p e s m below meth c ls E hP hK hD hS hl
  obtain ⟨hx, hb, hml, ho, hts, hr, hlk⟩ := id E
  have hl : lv_has ls 1 [(0, .ref aL)] := hl
  refine lv_iconst (v := 0) hx hb d_Lamp_horned_0 (by decide) ?_
  exact zrz E hK hP hD hS rfl d_Lamp_horned_1
set_option maxHeartbeats 1000000 in
set_option maxRecDepth 100000 in
theorem c_Twin_horned (l : Launch) (dC : Nat → ClassId) (dI : Nat → Nat → Nat) (c1 c2 c3 : ClassId) (A : Nat → Prop) (aC aD aE aL k : Nat) (hk : k < 9) (d : Nat → Int32) (kd ht tk lt : Int32) (rest : va_W) (j : Nat) (hj : j < rest.length) (σ : zS) : zM l y_Twin_horned b_Twin_horned 1 (some (FieldType.boolean)) 0 0 [.ref aL] (dC, dI) (t3 c1 c2 c3) A (wl c1 c2 aC aD aE aL k d kd ht tk lt rest j σ) (wl c1 c2 aC aD aE aL k d kd ht tk lt rest j σ) (some (.int 1)) := by
  refine zM_of "CoastLamps$Twin" rfl (by decide) (Nat.le_of_ble_eq_true rfl) ?_
  intro p e s m below meth c ls E hP hK hD hS hl
  obtain ⟨hx, hb, hml, ho, hts, hr, hlk⟩ := id E
  have hl : lv_has ls 1 [(0, .ref aL)] := hl
  refine lv_iconst (v := 1) hx hb d_Twin_horned_0 (by decide) ?_
  exact zrz E hK hP hD hS rfl d_Twin_horned_1
set_option maxHeartbeats 1000000 in
set_option maxRecDepth 100000 in
theorem c_Flare_horned (l : Launch) (dC : Nat → ClassId) (dI : Nat → Nat → Nat) (c1 c2 c3 : ClassId) (A : Nat → Prop) (aC aD aE aL k : Nat) (hk : k < 9) (d : Nat → Int32) (kd ht tk lt : Int32) (rest : va_W) (j : Nat) (hj : j < rest.length) (σ : zS) : zM l y_Flare_horned b_Flare_horned 1 (some (FieldType.boolean)) 0 0 [.ref aL] (dC, dI) (t3 c1 c2 c3) A (wl c1 c2 aC aD aE aL k d kd ht tk lt rest j σ) (wl c1 c2 aC aD aE aL k d kd ht tk lt rest j σ) (some (.int 1)) := by
  refine zM_of "CoastLamps$Flare" rfl (by decide) (Nat.le_of_ble_eq_true rfl) ?_
  intro p e s m below meth c ls E hP hK hD hS hl
  obtain ⟨hx, hb, hml, ho, hts, hr, hlk⟩ := id E
  have hl : lv_has ls 1 [(0, .ref aL)] := hl
  refine lv_iconst (v := 1) hx hb d_Flare_horned_0 (by decide) ?_
  exact zrz E hK hP hD hS rfl d_Flare_horned_1
set_option maxHeartbeats 1000000 in
set_option maxRecDepth 100000 in
theorem c_Lamp_drain (l : Launch) (dC : Nat → ClassId) (dI : Nat → Nat → Nat) (c1 c2 c3 : ClassId) (A : Nat → Prop) (aC aD aE aL k : Nat) (hk : k < 9) (d : Nat → Int32) (kd ht tk lt : Int32) (rest : va_W) (j : Nat) (hj : j < rest.length) (σ : zS) (x : Int32) : zM l y_Lamp_drain b_Lamp_drain 2 none 0 0 [.ref aL, .int x] (dC, dI) (t3 c1 c2 c3) A (wl c1 c2 aC aD aE aL k d kd ht tk lt rest j σ) (wl c1 c2 aC aD aE aL k d kd ht (if tk ≤ x then 0 else tk - x) (if tk ≤ x then 0 else lt) rest j σ) none := by
  by_cases h1 : tk ≤ x
  · rw [if_pos h1, if_pos h1]
    refine zM_of "CoastLamps$Lamp" rfl (by decide) (Nat.le_of_ble_eq_true rfl) ?_
    intro p e s m below meth c ls E hP hK hD hS hl
    obtain ⟨hx, hb, hml, ho, hts, hr, hlk⟩ := id E
    have hl : lv_has ls 2 [(0, .ref aL), (1, .int x)] := hl
    refine lv_aload_n hx hb d_Lamp_drain_0 rfl (lv_at hl 0 rfl) ?_
    refine zget (ci := k) (fs := [.ref aC, .int kd, .int ht, .int tk, .int σ.1, .int lt]) E hK hP (j + 3) (zg hj) (zC_K hk) 3 (by decide) kw_120 (Or.inl rfl) rfl d_Lamp_drain_1 ?_
    refine lv_iload_n hx hb d_Lamp_drain_4 rfl (lv_at hl 1 rfl) ?_
    refine lv_icmp_le (tgt := 21) hx hb d_Lamp_drain_5 (by decide) (fun _ => ?_) (fun h9 => absurd (h1) h9)
    refine lv_aload_n hx hb d_Lamp_drain_21 rfl (lv_at hl 0 rfl) ?_
    refine lv_iconst (v := 0) hx hb d_Lamp_drain_22 (by decide) ?_
    refine zput (ci := k) (fs := [.ref aC, .int kd, .int ht, .int tk, .int σ.1, .int lt]) (ty := .int) (v := .int 0) (ws2 := wl c1 c2 aC aD aE aL k d kd ht 0 lt rest j σ) E hK hP hD hS (j + 3) (zg hj) (zC_K hk) t_Lamp o_Lamp n_Lamp 3 (by decide) kw_120 (Or.inl rfl) rfl rfl rfl rfl (Nat.le_of_ble_eq_true rfl) d_Lamp_drain_23 (zs) (fun H locs hP hD hS => ?_)
    refine lv_aload_n hx hb d_Lamp_drain_26 rfl (lv_at hl 0 rfl) ?_
    refine lv_iconst (v := 0) hx hb d_Lamp_drain_27 (by decide) ?_
    refine zput (ci := k) (fs := [.ref aC, .int kd, .int ht, .int 0, .int σ.1, .int lt]) (ty := .boolean) (v := .int 0) (ws2 := wl c1 c2 aC aD aE aL k d kd ht 0 0 rest j σ) E hK hP hD hS (j + 3) (zg hj) (zC_K hk) t_Lamp o_Lamp n_Lamp 5 (by decide) kw_132 (Or.inl rfl) rfl rfl rfl rfl (Nat.le_of_ble_eq_true rfl) d_Lamp_drain_28 (zs) (fun H locs hP hD hS => ?_)
    exact zrv E hK hP hD hS d_Lamp_drain_31
  · rw [if_neg h1, if_neg h1]
    refine zM_of "CoastLamps$Lamp" rfl (by decide) (Nat.le_of_ble_eq_true rfl) ?_
    intro p e s m below meth c ls E hP hK hD hS hl
    obtain ⟨hx, hb, hml, ho, hts, hr, hlk⟩ := id E
    have hl : lv_has ls 2 [(0, .ref aL), (1, .int x)] := hl
    refine lv_aload_n hx hb d_Lamp_drain_0 rfl (lv_at hl 0 rfl) ?_
    refine zget (ci := k) (fs := [.ref aC, .int kd, .int ht, .int tk, .int σ.1, .int lt]) E hK hP (j + 3) (zg hj) (zC_K hk) 3 (by decide) kw_120 (Or.inl rfl) rfl d_Lamp_drain_1 ?_
    refine lv_iload_n hx hb d_Lamp_drain_4 rfl (lv_at hl 1 rfl) ?_
    refine lv_icmp_le (tgt := 21) hx hb d_Lamp_drain_5 (by decide) (fun h9 => absurd h9 (h1)) (fun _ => ?_)
    refine lv_aload_n hx hb d_Lamp_drain_8 rfl (lv_at hl 0 rfl) ?_
    refine lv_dup hx hb d_Lamp_drain_9 rfl ?_
    refine zget (ci := k) (fs := [.ref aC, .int kd, .int ht, .int tk, .int σ.1, .int lt]) E hK hP (j + 3) (zg hj) (zC_K hk) 3 (by decide) kw_120 (Or.inl rfl) rfl d_Lamp_drain_10 ?_
    refine lv_iload_n hx hb d_Lamp_drain_13 rfl (lv_at hl 1 rfl) ?_
    refine lv_isub hx hb d_Lamp_drain_14 ?_
    refine zput (ci := k) (fs := [.ref aC, .int kd, .int ht, .int tk, .int σ.1, .int lt]) (ty := .int) (v := .int (tk - x)) (ws2 := wl c1 c2 aC aD aE aL k d kd ht (tk - x) lt rest j σ) E hK hP hD hS (j + 3) (zg hj) (zC_K hk) t_Lamp o_Lamp n_Lamp 3 (by decide) kw_120 (Or.inl rfl) rfl rfl rfl rfl (Nat.le_of_ble_eq_true rfl) d_Lamp_drain_15 (zs) (fun H locs hP hD hS => ?_)
    refine lv_goto (tgt := 31) hx hb d_Lamp_drain_18 (by decide) ?_
    exact zrv E hK hP hD hS d_Lamp_drain_31
set_option maxHeartbeats 1000000 in
set_option maxRecDepth 100000 in
theorem c_horn_2 (l : Launch) (dC : Nat → ClassId) (dI : Nat → Nat → Nat) (c1 c2 c3 : ClassId) (A : Nat → Prop) (aC aD aE aL : Nat) (d : Nat → Int32) (kd ht tk lt : Int32) (rest : va_W) (j : Nat) (hj : j < rest.length) (σ : zS) (x : Int32) : zM l y_Lamp_horn b_Lamp_horn 3 (some (FieldType.int)) 4 86 [.ref aL, .int x] (dC, dI) (t3 c1 c2 c3) A (wl c1 c2 aC aD aE aL 2 d kd ht tk lt rest j σ) (wl c1 c2 aC aD aE aL 2 d kd ht tk lt rest j (hornK 2 d ht tk x σ).2) (some (.int (hornK 2 d ht tk x σ).1)) := by
  rw [show hornK 2 d ht tk x σ = ((oOil (σ.1, tb 5 σ.2)).1 * x + (rTwin d ht 0 ((oOil (σ.1, tb 5 σ.2)).2)).1, (rTwin d ht 0 ((oOil (σ.1, tb 5 σ.2)).2)).2) from rfl]
  dsimp only
  refine zM_of "CoastLamps$Lamp" rfl (by decide) (Nat.le_of_ble_eq_true rfl) ?_
  intro p e s m below meth c ls E hP hK hD hS hl
  obtain ⟨hx, hb, hml, ho, hts, hr, hlk⟩ := id E
  have hl : lv_has ls 3 [(0, .ref aL), (1, .int x)] := hl
  refine lv_aload_n hx hb d_Lamp_horn_0 rfl (lv_at hl 0 rfl) ?_
  refine zget (ci := 2) (fs := [.ref aC, .int kd, .int ht, .int tk, .int σ.1, .int lt]) E hK hP (j + 3) (zg hj) (zC_K (by decide)) 0 (by decide) kw_97 (Or.inl rfl) rfl d_Lamp_horn_1 ?_
  refine lv_iconst (v := 0) hx hb d_Lamp_horn_4 (by decide) ?_
  refine lv_iconst (v := 5) hx hb d_Lamp_horn_5 (by decide) ?_
  refine zcV (As := [.int 0, .int 5]) (rest := []) (ci := 9) E cy_Coast_begins kw_293 kw_294 kw_334 (c_Coast_begins l dC dI c1 c2 c3 A aC aD aE d (rest.set j (wL aC aL 2 kd ht tk σ.1 lt)) σ.2 0 5 5 (by decide)) hK hP hD hS 0 rfl zC_Coast.1 rfl rfl hl.1 rfl (Nat.le_of_ble_eq_true rfl) ⟨Nat.le_of_ble_eq_true rfl, Nat.le_of_ble_eq_true rfl⟩ d_Lamp_horn_6 ⟨Nat.le_refl _, Nat.le_refl _⟩ (fun H locs hP hD hS => ?_)
  have hP : va_P (dC, dI) classes (wl c1 c2 aC aD aE aL 2 d kd ht tk lt rest j (σ.1, tb 5 σ.2)) H := hP
  have hD : va_D A (wl c1 c2 aC aD aE aL 2 d kd ht tk lt rest j (σ.1, tb 5 σ.2)) := hD
  refine lv_aload_n hx hb d_Lamp_horn_9 rfl (lv_at hl 0 rfl) ?_
  refine zcU (x := y_Lamp_tone) (owner := "CoastLamps$Lamp") (As := []) (rest := []) (ci := 2) E cy_Oil_tone cy_Lamp_tone kw_489 kw_494 kw_495 kw_512 kw_493 (c_Oil_tone l dC dI c1 c2 c3 A aC aD aE aL 2 (by decide) d kd ht tk lt rest j hj (σ.1, tb 5 σ.2)) hK hP hD hS (j + 3) (zg hj) (zC_K (by decide)).1 rfl hl.1 rfl (Nat.le_of_ble_eq_true rfl) ⟨Nat.le_of_ble_eq_true rfl, Nat.le_of_ble_eq_true rfl⟩ d_Lamp_horn_10 ⟨Nat.le_refl _, Nat.le_refl _⟩ (fun H locs hP hD hS => ?_)
  have hP : va_P (dC, dI) classes (wl c1 c2 aC aD aE aL 2 d kd ht tk lt rest j ((oOil (σ.1, tb 5 σ.2)).2)) H := hP
  have hD : va_D A (wl c1 c2 aC aD aE aL 2 d kd ht tk lt rest j ((oOil (σ.1, tb 5 σ.2)).2)) := hD
  refine lv_iload_n hx hb d_Lamp_horn_13 rfl (lv_at hl 1 rfl) ?_
  refine lv_imul hx hb d_Lamp_horn_14 ?_
  refine lv_istore_n (lv' := [(2, .int (((oOil (σ.1, tb 5 σ.2)).1) * x)), (0, .ref aL), (1, .int x)]) hx hb d_Lamp_horn_15 rfl hl (by decide) rfl (fun ls hl => ?_)
  refine lv_iload_n hx hb d_Lamp_horn_16 rfl (lv_at hl 0 rfl) ?_
  refine lv_aload_n hx hb d_Lamp_horn_17 rfl (lv_at hl 1 rfl) ?_
  refine lv_iconst (v := 0) hx hb d_Lamp_horn_18 (by decide) ?_
  refine zcU (x := y_Lamp_reach) (owner := "CoastLamps$Lamp") (As := [.int 0]) (rest := [.int (((oOil (σ.1, tb 5 σ.2)).1) * x)]) (ci := 2) E cy_Twin_reach cy_Lamp_reach kw_355 kw_337 kw_338 kw_372 kw_514 (c_Twin_reach l dC dI c1 c2 c3 A aC aD aE aL 2 (by decide) d kd ht tk lt rest j hj ((oOil (σ.1, tb 5 σ.2)).2) 0) hK hP hD hS (j + 3) (zg hj) (zC_K (by decide)).1 rfl hl.1 rfl (Nat.le_of_ble_eq_true rfl) ⟨Nat.le_of_ble_eq_true rfl, Nat.le_of_ble_eq_true rfl⟩ d_Lamp_horn_19 ⟨Nat.le_refl _, Nat.le_refl _⟩ (fun H locs hP hD hS => ?_)
  have hP : va_P (dC, dI) classes (wl c1 c2 aC aD aE aL 2 d kd ht tk lt rest j ((rTwin d ht 0 ((oOil (σ.1, tb 5 σ.2)).2)).2)) H := hP
  have hD : va_D A (wl c1 c2 aC aD aE aL 2 d kd ht tk lt rest j ((rTwin d ht 0 ((oOil (σ.1, tb 5 σ.2)).2)).2)) := hD
  refine lv_iadd hx hb d_Lamp_horn_22 ?_
  exact zri E hK hP hD hS d_Lamp_horn_23
set_option maxHeartbeats 1000000 in
set_option maxRecDepth 100000 in
theorem c_horn_3 (l : Launch) (dC : Nat → ClassId) (dI : Nat → Nat → Nat) (c1 c2 c3 : ClassId) (A : Nat → Prop) (aC aD aE aL : Nat) (d : Nat → Int32) (kd ht tk lt : Int32) (rest : va_W) (j : Nat) (hj : j < rest.length) (σ : zS) (x : Int32) : zM l y_Lamp_horn b_Lamp_horn 3 (some (FieldType.int)) 5 107 [.ref aL, .int x] (dC, dI) (t3 c1 c2 c3) A (wl c1 c2 aC aD aE aL 3 d kd ht tk lt rest j σ) (wl c1 c2 aC aD aE aL 3 d kd ht tk lt rest j (hornK 3 d ht tk x σ).2) (some (.int (hornK 3 d ht tk x σ).1)) := by
  rw [show hornK 3 d ht tk x σ = ((oDrum d (σ.1, tb 5 σ.2)).1 * x + (rDrum d ht 0 ((oDrum d (σ.1, tb 5 σ.2)).2)).1, (rDrum d ht 0 ((oDrum d (σ.1, tb 5 σ.2)).2)).2) from rfl]
  dsimp only
  refine zM_of "CoastLamps$Lamp" rfl (by decide) (Nat.le_of_ble_eq_true rfl) ?_
  intro p e s m below meth c ls E hP hK hD hS hl
  obtain ⟨hx, hb, hml, ho, hts, hr, hlk⟩ := id E
  have hl : lv_has ls 3 [(0, .ref aL), (1, .int x)] := hl
  refine lv_aload_n hx hb d_Lamp_horn_0 rfl (lv_at hl 0 rfl) ?_
  refine zget (ci := 3) (fs := [.ref aC, .int kd, .int ht, .int tk, .int σ.1, .int lt]) E hK hP (j + 3) (zg hj) (zC_K (by decide)) 0 (by decide) kw_97 (Or.inl rfl) rfl d_Lamp_horn_1 ?_
  refine lv_iconst (v := 0) hx hb d_Lamp_horn_4 (by decide) ?_
  refine lv_iconst (v := 5) hx hb d_Lamp_horn_5 (by decide) ?_
  refine zcV (As := [.int 0, .int 5]) (rest := []) (ci := 9) E cy_Coast_begins kw_293 kw_294 kw_334 (c_Coast_begins l dC dI c1 c2 c3 A aC aD aE d (rest.set j (wL aC aL 3 kd ht tk σ.1 lt)) σ.2 0 5 5 (by decide)) hK hP hD hS 0 rfl zC_Coast.1 rfl rfl hl.1 rfl (Nat.le_of_ble_eq_true rfl) ⟨Nat.le_of_ble_eq_true rfl, Nat.le_of_ble_eq_true rfl⟩ d_Lamp_horn_6 ⟨Nat.le_refl _, Nat.le_refl _⟩ (fun H locs hP hD hS => ?_)
  have hP : va_P (dC, dI) classes (wl c1 c2 aC aD aE aL 3 d kd ht tk lt rest j (σ.1, tb 5 σ.2)) H := hP
  have hD : va_D A (wl c1 c2 aC aD aE aL 3 d kd ht tk lt rest j (σ.1, tb 5 σ.2)) := hD
  refine lv_aload_n hx hb d_Lamp_horn_9 rfl (lv_at hl 0 rfl) ?_
  refine zcU (x := y_Lamp_tone) (owner := "CoastLamps$Lamp") (As := []) (rest := []) (ci := 3) E cy_Drum_tone cy_Lamp_tone kw_484 kw_494 kw_495 kw_499 kw_493 (c_Drum_tone l dC dI c1 c2 c3 A aC aD aE aL 3 (by decide) d kd ht tk lt rest j hj (σ.1, tb 5 σ.2)) hK hP hD hS (j + 3) (zg hj) (zC_K (by decide)).1 rfl hl.1 rfl (Nat.le_of_ble_eq_true rfl) ⟨Nat.le_of_ble_eq_true rfl, Nat.le_of_ble_eq_true rfl⟩ d_Lamp_horn_10 ⟨Nat.le_refl _, Nat.le_refl _⟩ (fun H locs hP hD hS => ?_)
  have hP : va_P (dC, dI) classes (wl c1 c2 aC aD aE aL 3 d kd ht tk lt rest j ((oDrum d (σ.1, tb 5 σ.2)).2)) H := hP
  have hD : va_D A (wl c1 c2 aC aD aE aL 3 d kd ht tk lt rest j ((oDrum d (σ.1, tb 5 σ.2)).2)) := hD
  refine lv_iload_n hx hb d_Lamp_horn_13 rfl (lv_at hl 1 rfl) ?_
  refine lv_imul hx hb d_Lamp_horn_14 ?_
  refine lv_istore_n (lv' := [(2, .int (((oDrum d (σ.1, tb 5 σ.2)).1) * x)), (0, .ref aL), (1, .int x)]) hx hb d_Lamp_horn_15 rfl hl (by decide) rfl (fun ls hl => ?_)
  refine lv_iload_n hx hb d_Lamp_horn_16 rfl (lv_at hl 0 rfl) ?_
  refine lv_aload_n hx hb d_Lamp_horn_17 rfl (lv_at hl 1 rfl) ?_
  refine lv_iconst (v := 0) hx hb d_Lamp_horn_18 (by decide) ?_
  refine zcU (x := y_Lamp_reach) (owner := "CoastLamps$Lamp") (As := [.int 0]) (rest := [.int (((oDrum d (σ.1, tb 5 σ.2)).1) * x)]) (ci := 3) E cy_Drum_reach cy_Lamp_reach kw_351 kw_337 kw_338 kw_350 kw_514 (c_Drum_reach l dC dI c1 c2 c3 A aC aD aE aL 3 (by decide) d kd ht tk lt rest j hj ((oDrum d (σ.1, tb 5 σ.2)).2) 0) hK hP hD hS (j + 3) (zg hj) (zC_K (by decide)).1 rfl hl.1 rfl (Nat.le_of_ble_eq_true rfl) ⟨Nat.le_of_ble_eq_true rfl, Nat.le_of_ble_eq_true rfl⟩ d_Lamp_horn_19 ⟨Nat.le_refl _, Nat.le_refl _⟩ (fun H locs hP hD hS => ?_)
  have hP : va_P (dC, dI) classes (wl c1 c2 aC aD aE aL 3 d kd ht tk lt rest j ((rDrum d ht 0 ((oDrum d (σ.1, tb 5 σ.2)).2)).2)) H := hP
  have hD : va_D A (wl c1 c2 aC aD aE aL 3 d kd ht tk lt rest j ((rDrum d ht 0 ((oDrum d (σ.1, tb 5 σ.2)).2)).2)) := hD
  refine lv_iadd hx hb d_Lamp_horn_22 ?_
  exact zri E hK hP hD hS d_Lamp_horn_23
set_option maxHeartbeats 1000000 in
set_option maxRecDepth 100000 in
theorem c_horn_6 (l : Launch) (dC : Nat → ClassId) (dI : Nat → Nat → Nat) (c1 c2 c3 : ClassId) (A : Nat → Prop) (aC aD aE aL : Nat) (d : Nat → Int32) (kd ht tk lt : Int32) (rest : va_W) (j : Nat) (hj : j < rest.length) (σ : zS) (x : Int32) : zM l y_Lamp_horn b_Lamp_horn 3 (some (FieldType.int)) 3 64 [.ref aL, .int x] (dC, dI) (t3 c1 c2 c3) A (wl c1 c2 aC aD aE aL 6 d kd ht tk lt rest j σ) (wl c1 c2 aC aD aE aL 6 d kd ht tk lt rest j (hornK 6 d ht tk x σ).2) (some (.int (hornK 6 d ht tk x σ).1)) := by
  rw [show hornK 6 d ht tk x σ = ((oFlare (σ.1, tb 5 σ.2)).1 * x + (rGas ht 0 ((oFlare (σ.1, tb 5 σ.2)).2)).1, (rGas ht 0 ((oFlare (σ.1, tb 5 σ.2)).2)).2) from rfl]
  dsimp only
  refine zM_of "CoastLamps$Lamp" rfl (by decide) (Nat.le_of_ble_eq_true rfl) ?_
  intro p e s m below meth c ls E hP hK hD hS hl
  obtain ⟨hx, hb, hml, ho, hts, hr, hlk⟩ := id E
  have hl : lv_has ls 3 [(0, .ref aL), (1, .int x)] := hl
  refine lv_aload_n hx hb d_Lamp_horn_0 rfl (lv_at hl 0 rfl) ?_
  refine zget (ci := 6) (fs := [.ref aC, .int kd, .int ht, .int tk, .int σ.1, .int lt]) E hK hP (j + 3) (zg hj) (zC_K (by decide)) 0 (by decide) kw_97 (Or.inl rfl) rfl d_Lamp_horn_1 ?_
  refine lv_iconst (v := 0) hx hb d_Lamp_horn_4 (by decide) ?_
  refine lv_iconst (v := 5) hx hb d_Lamp_horn_5 (by decide) ?_
  refine zcV (As := [.int 0, .int 5]) (rest := []) (ci := 9) E cy_Coast_begins kw_293 kw_294 kw_334 (c_Coast_begins l dC dI c1 c2 c3 A aC aD aE d (rest.set j (wL aC aL 6 kd ht tk σ.1 lt)) σ.2 0 5 5 (by decide)) hK hP hD hS 0 rfl zC_Coast.1 rfl rfl hl.1 rfl (Nat.le_of_ble_eq_true rfl) ⟨Nat.le_of_ble_eq_true rfl, Nat.le_of_ble_eq_true rfl⟩ d_Lamp_horn_6 ⟨Nat.le_refl _, Nat.le_refl _⟩ (fun H locs hP hD hS => ?_)
  have hP : va_P (dC, dI) classes (wl c1 c2 aC aD aE aL 6 d kd ht tk lt rest j (σ.1, tb 5 σ.2)) H := hP
  have hD : va_D A (wl c1 c2 aC aD aE aL 6 d kd ht tk lt rest j (σ.1, tb 5 σ.2)) := hD
  refine lv_aload_n hx hb d_Lamp_horn_9 rfl (lv_at hl 0 rfl) ?_
  refine zcU (x := y_Lamp_tone) (owner := "CoastLamps$Lamp") (As := []) (rest := []) (ci := 6) E cy_Flare_tone cy_Lamp_tone kw_497 kw_494 kw_495 kw_500 kw_493 (c_Flare_tone l dC dI c1 c2 c3 A aC aD aE aL 6 (by decide) d kd ht tk lt rest j hj (σ.1, tb 5 σ.2)) hK hP hD hS (j + 3) (zg hj) (zC_K (by decide)).1 rfl hl.1 rfl (Nat.le_of_ble_eq_true rfl) ⟨Nat.le_of_ble_eq_true rfl, Nat.le_of_ble_eq_true rfl⟩ d_Lamp_horn_10 ⟨Nat.le_refl _, Nat.le_refl _⟩ (fun H locs hP hD hS => ?_)
  have hP : va_P (dC, dI) classes (wl c1 c2 aC aD aE aL 6 d kd ht tk lt rest j ((oFlare (σ.1, tb 5 σ.2)).2)) H := hP
  have hD : va_D A (wl c1 c2 aC aD aE aL 6 d kd ht tk lt rest j ((oFlare (σ.1, tb 5 σ.2)).2)) := hD
  refine lv_iload_n hx hb d_Lamp_horn_13 rfl (lv_at hl 1 rfl) ?_
  refine lv_imul hx hb d_Lamp_horn_14 ?_
  refine lv_istore_n (lv' := [(2, .int (((oFlare (σ.1, tb 5 σ.2)).1) * x)), (0, .ref aL), (1, .int x)]) hx hb d_Lamp_horn_15 rfl hl (by decide) rfl (fun ls hl => ?_)
  refine lv_iload_n hx hb d_Lamp_horn_16 rfl (lv_at hl 0 rfl) ?_
  refine lv_aload_n hx hb d_Lamp_horn_17 rfl (lv_at hl 1 rfl) ?_
  refine lv_iconst (v := 0) hx hb d_Lamp_horn_18 (by decide) ?_
  refine zcU (x := y_Lamp_reach) (owner := "CoastLamps$Lamp") (As := [.int 0]) (rest := [.int (((oFlare (σ.1, tb 5 σ.2)).1) * x)]) (ci := 6) E cy_Gas_reach cy_Lamp_reach kw_346 kw_337 kw_338 kw_366 kw_514 (c_Gas_reach l dC dI c1 c2 c3 A aC aD aE aL 6 (by decide) d kd ht tk lt rest j hj ((oFlare (σ.1, tb 5 σ.2)).2) 0) hK hP hD hS (j + 3) (zg hj) (zC_K (by decide)).1 rfl hl.1 rfl (Nat.le_of_ble_eq_true rfl) ⟨Nat.le_of_ble_eq_true rfl, Nat.le_of_ble_eq_true rfl⟩ d_Lamp_horn_19 ⟨Nat.le_refl _, Nat.le_refl _⟩ (fun H locs hP hD hS => ?_)
  have hP : va_P (dC, dI) classes (wl c1 c2 aC aD aE aL 6 d kd ht tk lt rest j ((rGas ht 0 ((oFlare (σ.1, tb 5 σ.2)).2)).2)) H := hP
  have hD : va_D A (wl c1 c2 aC aD aE aL 6 d kd ht tk lt rest j ((rGas ht 0 ((oFlare (σ.1, tb 5 σ.2)).2)).2)) := hD
  refine lv_iadd hx hb d_Lamp_horn_22 ?_
  exact zri E hK hP hD hS d_Lamp_horn_23
set_option maxHeartbeats 1000000 in
set_option maxRecDepth 100000 in
theorem c_horn_7 (l : Launch) (dC : Nat → ClassId) (dI : Nat → Nat → Nat) (c1 c2 c3 : ClassId) (A : Nat → Prop) (aC aD aE aL : Nat) (d : Nat → Int32) (kd ht tk lt : Int32) (rest : va_W) (j : Nat) (hj : j < rest.length) (σ : zS) (x : Int32) : zM l y_Lamp_horn b_Lamp_horn 3 (some (FieldType.int)) 4 85 [.ref aL, .int x] (dC, dI) (t3 c1 c2 c3) A (wl c1 c2 aC aD aE aL 7 d kd ht tk lt rest j σ) (wl c1 c2 aC aD aE aL 7 d kd ht tk lt rest j (hornK 7 d ht tk x σ).2) (some (.int (hornK 7 d ht tk x σ).1)) := by
  rw [show hornK 7 d ht tk x σ = ((oFlare (σ.1, tb 5 σ.2)).1 * x + (rBuoy ht 0 ((oFlare (σ.1, tb 5 σ.2)).2)).1, (rBuoy ht 0 ((oFlare (σ.1, tb 5 σ.2)).2)).2) from rfl]
  dsimp only
  refine zM_of "CoastLamps$Lamp" rfl (by decide) (Nat.le_of_ble_eq_true rfl) ?_
  intro p e s m below meth c ls E hP hK hD hS hl
  obtain ⟨hx, hb, hml, ho, hts, hr, hlk⟩ := id E
  have hl : lv_has ls 3 [(0, .ref aL), (1, .int x)] := hl
  refine lv_aload_n hx hb d_Lamp_horn_0 rfl (lv_at hl 0 rfl) ?_
  refine zget (ci := 7) (fs := [.ref aC, .int kd, .int ht, .int tk, .int σ.1, .int lt]) E hK hP (j + 3) (zg hj) (zC_K (by decide)) 0 (by decide) kw_97 (Or.inl rfl) rfl d_Lamp_horn_1 ?_
  refine lv_iconst (v := 0) hx hb d_Lamp_horn_4 (by decide) ?_
  refine lv_iconst (v := 5) hx hb d_Lamp_horn_5 (by decide) ?_
  refine zcV (As := [.int 0, .int 5]) (rest := []) (ci := 9) E cy_Coast_begins kw_293 kw_294 kw_334 (c_Coast_begins l dC dI c1 c2 c3 A aC aD aE d (rest.set j (wL aC aL 7 kd ht tk σ.1 lt)) σ.2 0 5 5 (by decide)) hK hP hD hS 0 rfl zC_Coast.1 rfl rfl hl.1 rfl (Nat.le_of_ble_eq_true rfl) ⟨Nat.le_of_ble_eq_true rfl, Nat.le_of_ble_eq_true rfl⟩ d_Lamp_horn_6 ⟨Nat.le_refl _, Nat.le_refl _⟩ (fun H locs hP hD hS => ?_)
  have hP : va_P (dC, dI) classes (wl c1 c2 aC aD aE aL 7 d kd ht tk lt rest j (σ.1, tb 5 σ.2)) H := hP
  have hD : va_D A (wl c1 c2 aC aD aE aL 7 d kd ht tk lt rest j (σ.1, tb 5 σ.2)) := hD
  refine lv_aload_n hx hb d_Lamp_horn_9 rfl (lv_at hl 0 rfl) ?_
  refine zcU (x := y_Lamp_tone) (owner := "CoastLamps$Lamp") (As := []) (rest := []) (ci := 7) E cy_Flare_tone cy_Lamp_tone kw_497 kw_494 kw_495 kw_496 kw_493 (c_Flare_tone l dC dI c1 c2 c3 A aC aD aE aL 7 (by decide) d kd ht tk lt rest j hj (σ.1, tb 5 σ.2)) hK hP hD hS (j + 3) (zg hj) (zC_K (by decide)).1 rfl hl.1 rfl (Nat.le_of_ble_eq_true rfl) ⟨Nat.le_of_ble_eq_true rfl, Nat.le_of_ble_eq_true rfl⟩ d_Lamp_horn_10 ⟨Nat.le_refl _, Nat.le_refl _⟩ (fun H locs hP hD hS => ?_)
  have hP : va_P (dC, dI) classes (wl c1 c2 aC aD aE aL 7 d kd ht tk lt rest j ((oFlare (σ.1, tb 5 σ.2)).2)) H := hP
  have hD : va_D A (wl c1 c2 aC aD aE aL 7 d kd ht tk lt rest j ((oFlare (σ.1, tb 5 σ.2)).2)) := hD
  refine lv_iload_n hx hb d_Lamp_horn_13 rfl (lv_at hl 1 rfl) ?_
  refine lv_imul hx hb d_Lamp_horn_14 ?_
  refine lv_istore_n (lv' := [(2, .int (((oFlare (σ.1, tb 5 σ.2)).1) * x)), (0, .ref aL), (1, .int x)]) hx hb d_Lamp_horn_15 rfl hl (by decide) rfl (fun ls hl => ?_)
  refine lv_iload_n hx hb d_Lamp_horn_16 rfl (lv_at hl 0 rfl) ?_
  refine lv_aload_n hx hb d_Lamp_horn_17 rfl (lv_at hl 1 rfl) ?_
  refine lv_iconst (v := 0) hx hb d_Lamp_horn_18 (by decide) ?_
  refine zcU (x := y_Lamp_reach) (owner := "CoastLamps$Lamp") (As := [.int 0]) (rest := [.int (((oFlare (σ.1, tb 5 σ.2)).1) * x)]) (ci := 7) E cy_Buoy_reach cy_Lamp_reach kw_340 kw_337 kw_338 kw_339 kw_514 (c_Buoy_reach l dC dI c1 c2 c3 A aC aD aE aL 7 (by decide) d kd ht tk lt rest j hj ((oFlare (σ.1, tb 5 σ.2)).2) 0) hK hP hD hS (j + 3) (zg hj) (zC_K (by decide)).1 rfl hl.1 rfl (Nat.le_of_ble_eq_true rfl) ⟨Nat.le_of_ble_eq_true rfl, Nat.le_of_ble_eq_true rfl⟩ d_Lamp_horn_19 ⟨Nat.le_refl _, Nat.le_refl _⟩ (fun H locs hP hD hS => ?_)
  have hP : va_P (dC, dI) classes (wl c1 c2 aC aD aE aL 7 d kd ht tk lt rest j ((rBuoy ht 0 ((oFlare (σ.1, tb 5 σ.2)).2)).2)) H := hP
  have hD : va_D A (wl c1 c2 aC aD aE aL 7 d kd ht tk lt rest j ((rBuoy ht 0 ((oFlare (σ.1, tb 5 σ.2)).2)).2)) := hD
  refine lv_iadd hx hb d_Lamp_horn_22 ?_
  exact zri E hK hP hD hS d_Lamp_horn_23
set_option maxHeartbeats 1000000 in
set_option maxRecDepth 100000 in
theorem c_horn_8 (l : Launch) (dC : Nat → ClassId) (dI : Nat → Nat → Nat) (c1 c2 c3 : ClassId) (A : Nat → Prop) (aC aD aE aL : Nat) (d : Nat → Int32) (kd ht tk lt : Int32) (rest : va_W) (j : Nat) (hj : j < rest.length) (σ : zS) (x : Int32) : zM l y_Lamp_horn b_Lamp_horn 3 (some (FieldType.int)) 5 103 [.ref aL, .int x] (dC, dI) (t3 c1 c2 c3) A (wl c1 c2 aC aD aE aL 8 d kd ht tk lt rest j σ) (wl c1 c2 aC aD aE aL 8 d kd ht tk lt rest j (hornK 8 d ht tk x σ).2) (some (.int (hornK 8 d ht tk x σ).1)) := by
  rw [show hornK 8 d ht tk x σ = ((oOuter ht tk (σ.1, tb 5 σ.2)).1 * x + (rBuoy ht 0 ((oOuter ht tk (σ.1, tb 5 σ.2)).2)).1, (rBuoy ht 0 ((oOuter ht tk (σ.1, tb 5 σ.2)).2)).2) from rfl]
  dsimp only
  refine zM_of "CoastLamps$Lamp" rfl (by decide) (Nat.le_of_ble_eq_true rfl) ?_
  intro p e s m below meth c ls E hP hK hD hS hl
  obtain ⟨hx, hb, hml, ho, hts, hr, hlk⟩ := id E
  have hl : lv_has ls 3 [(0, .ref aL), (1, .int x)] := hl
  refine lv_aload_n hx hb d_Lamp_horn_0 rfl (lv_at hl 0 rfl) ?_
  refine zget (ci := 8) (fs := [.ref aC, .int kd, .int ht, .int tk, .int σ.1, .int lt]) E hK hP (j + 3) (zg hj) (zC_K (by decide)) 0 (by decide) kw_97 (Or.inl rfl) rfl d_Lamp_horn_1 ?_
  refine lv_iconst (v := 0) hx hb d_Lamp_horn_4 (by decide) ?_
  refine lv_iconst (v := 5) hx hb d_Lamp_horn_5 (by decide) ?_
  refine zcV (As := [.int 0, .int 5]) (rest := []) (ci := 9) E cy_Coast_begins kw_293 kw_294 kw_334 (c_Coast_begins l dC dI c1 c2 c3 A aC aD aE d (rest.set j (wL aC aL 8 kd ht tk σ.1 lt)) σ.2 0 5 5 (by decide)) hK hP hD hS 0 rfl zC_Coast.1 rfl rfl hl.1 rfl (Nat.le_of_ble_eq_true rfl) ⟨Nat.le_of_ble_eq_true rfl, Nat.le_of_ble_eq_true rfl⟩ d_Lamp_horn_6 ⟨Nat.le_refl _, Nat.le_refl _⟩ (fun H locs hP hD hS => ?_)
  have hP : va_P (dC, dI) classes (wl c1 c2 aC aD aE aL 8 d kd ht tk lt rest j (σ.1, tb 5 σ.2)) H := hP
  have hD : va_D A (wl c1 c2 aC aD aE aL 8 d kd ht tk lt rest j (σ.1, tb 5 σ.2)) := hD
  refine lv_aload_n hx hb d_Lamp_horn_9 rfl (lv_at hl 0 rfl) ?_
  refine zcU (x := y_Lamp_tone) (owner := "CoastLamps$Lamp") (As := []) (rest := []) (ci := 8) E cy_Outer_tone cy_Lamp_tone kw_504 kw_494 kw_495 kw_503 kw_493 (c_Outer_tone l dC dI c1 c2 c3 A aC aD aE aL d kd ht tk lt rest j hj (σ.1, tb 5 σ.2)) hK hP hD hS (j + 3) (zg hj) (zC_K (by decide)).1 rfl hl.1 rfl (Nat.le_of_ble_eq_true rfl) ⟨Nat.le_of_ble_eq_true rfl, Nat.le_of_ble_eq_true rfl⟩ d_Lamp_horn_10 ⟨Nat.le_refl _, Nat.le_refl _⟩ (fun H locs hP hD hS => ?_)
  have hP : va_P (dC, dI) classes (wl c1 c2 aC aD aE aL 8 d kd ht tk lt rest j ((oOuter ht tk (σ.1, tb 5 σ.2)).2)) H := hP
  have hD : va_D A (wl c1 c2 aC aD aE aL 8 d kd ht tk lt rest j ((oOuter ht tk (σ.1, tb 5 σ.2)).2)) := hD
  refine lv_iload_n hx hb d_Lamp_horn_13 rfl (lv_at hl 1 rfl) ?_
  refine lv_imul hx hb d_Lamp_horn_14 ?_
  refine lv_istore_n (lv' := [(2, .int (((oOuter ht tk (σ.1, tb 5 σ.2)).1) * x)), (0, .ref aL), (1, .int x)]) hx hb d_Lamp_horn_15 rfl hl (by decide) rfl (fun ls hl => ?_)
  refine lv_iload_n hx hb d_Lamp_horn_16 rfl (lv_at hl 0 rfl) ?_
  refine lv_aload_n hx hb d_Lamp_horn_17 rfl (lv_at hl 1 rfl) ?_
  refine lv_iconst (v := 0) hx hb d_Lamp_horn_18 (by decide) ?_
  refine zcU (x := y_Lamp_reach) (owner := "CoastLamps$Lamp") (As := [.int 0]) (rest := [.int (((oOuter ht tk (σ.1, tb 5 σ.2)).1) * x)]) (ci := 8) E cy_Buoy_reach cy_Lamp_reach kw_340 kw_337 kw_338 kw_369 kw_514 (c_Buoy_reach l dC dI c1 c2 c3 A aC aD aE aL 8 (by decide) d kd ht tk lt rest j hj ((oOuter ht tk (σ.1, tb 5 σ.2)).2) 0) hK hP hD hS (j + 3) (zg hj) (zC_K (by decide)).1 rfl hl.1 rfl (Nat.le_of_ble_eq_true rfl) ⟨Nat.le_of_ble_eq_true rfl, Nat.le_of_ble_eq_true rfl⟩ d_Lamp_horn_19 ⟨Nat.le_refl _, Nat.le_refl _⟩ (fun H locs hP hD hS => ?_)
  have hP : va_P (dC, dI) classes (wl c1 c2 aC aD aE aL 8 d kd ht tk lt rest j ((rBuoy ht 0 ((oOuter ht tk (σ.1, tb 5 σ.2)).2)).2)) H := hP
  have hD : va_D A (wl c1 c2 aC aD aE aL 8 d kd ht tk lt rest j ((rBuoy ht 0 ((oOuter ht tk (σ.1, tb 5 σ.2)).2)).2)) := hD
  refine lv_iadd hx hb d_Lamp_horn_22 ?_
  exact zri E hK hP hD hS d_Lamp_horn_23
set_option maxHeartbeats 1000000 in
set_option maxRecDepth 100000 in
theorem c_horn_4 (l : Launch) (dC : Nat → ClassId) (dI : Nat → Nat → Nat) (c1 c2 c3 : ClassId) (A : Nat → Prop) (aC aD aE aL : Nat) (d : Nat → Int32) (kd ht tk lt : Int32) (rest : va_W) (j : Nat) (hj : j < rest.length) (σ : zS) (x : Int32) : zM l y_Swing_horn b_Swing_horn 2 (some (FieldType.int)) 3 62 [.ref aL, .int x] (dC, dI) (t3 c1 c2 c3) A (wl c1 c2 aC aD aE aL 4 d kd ht tk lt rest j σ) (wl c1 c2 aC aD aE aL 4 d kd ht tk lt rest j (hornK 4 d ht tk x σ).2) (some (.int (hornK 4 d ht tk x σ).1)) := by
  rw [show hornK 4 d ht tk x σ = ((oDrum d (σ.1, tb 55 σ.2)).1 + x, (oDrum d (σ.1, tb 55 σ.2)).2) from rfl]
  dsimp only
  refine zM_of "CoastLamps$Swing" rfl (by decide) (Nat.le_of_ble_eq_true rfl) ?_
  intro p e s m below meth c ls E hP hK hD hS hl
  obtain ⟨hx, hb, hml, ho, hts, hr, hlk⟩ := id E
  have hl : lv_has ls 2 [(0, .ref aL), (1, .int x)] := hl
  refine lv_aload_n hx hb d_Swing_horn_0 rfl (lv_at hl 0 rfl) ?_
  refine zget (ci := 4) (fs := [.ref aC, .int kd, .int ht, .int tk, .int σ.1, .int lt]) E hK hP (j + 3) (zg hj) (zC_K (by decide)) 0 (by decide) kw_102 (Or.inr kw_103) rfl d_Swing_horn_1 ?_
  refine lv_iconst (v := 5) hx hb d_Swing_horn_4 (by decide) ?_
  refine lv_iconst (v := 5) hx hb d_Swing_horn_5 (by decide) ?_
  refine zcV (As := [.int 5, .int 5]) (rest := []) (ci := 9) E cy_Coast_begins kw_293 kw_294 kw_328 (c_Coast_begins l dC dI c1 c2 c3 A aC aD aE d (rest.set j (wL aC aL 4 kd ht tk σ.1 lt)) σ.2 5 5 55 (by decide)) hK hP hD hS 0 rfl zC_Coast.1 rfl rfl hl.1 rfl (Nat.le_of_ble_eq_true rfl) ⟨Nat.le_of_ble_eq_true rfl, Nat.le_of_ble_eq_true rfl⟩ d_Swing_horn_6 ⟨Nat.le_refl _, Nat.le_refl _⟩ (fun H locs hP hD hS => ?_)
  have hP : va_P (dC, dI) classes (wl c1 c2 aC aD aE aL 4 d kd ht tk lt rest j (σ.1, tb 55 σ.2)) H := hP
  have hD : va_D A (wl c1 c2 aC aD aE aL 4 d kd ht tk lt rest j (σ.1, tb 55 σ.2)) := hD
  refine lv_aload_n hx hb d_Swing_horn_9 rfl (lv_at hl 0 rfl) ?_
  refine zcU (x := ⟨"CoastLamps$Swing", "tone", "()I"⟩) (owner := "CoastLamps$Drum") (As := []) (rest := []) (ci := 4) E cy_Drum_tone cy_Drum_tone kw_484 kw_484 kw_481 kw_483 kw_480 (c_Drum_tone l dC dI c1 c2 c3 A aC aD aE aL 4 (by decide) d kd ht tk lt rest j hj (σ.1, tb 55 σ.2)) hK hP hD hS (j + 3) (zg hj) (zC_K (by decide)).1 rfl hl.1 rfl (Nat.le_of_ble_eq_true rfl) ⟨Nat.le_of_ble_eq_true rfl, Nat.le_of_ble_eq_true rfl⟩ d_Swing_horn_10 ⟨Nat.le_refl _, Nat.le_refl _⟩ (fun H locs hP hD hS => ?_)
  have hP : va_P (dC, dI) classes (wl c1 c2 aC aD aE aL 4 d kd ht tk lt rest j ((oDrum d (σ.1, tb 55 σ.2)).2)) H := hP
  have hD : va_D A (wl c1 c2 aC aD aE aL 4 d kd ht tk lt rest j ((oDrum d (σ.1, tb 55 σ.2)).2)) := hD
  refine lv_iload_n hx hb d_Swing_horn_13 rfl (lv_at hl 1 rfl) ?_
  refine lv_iadd hx hb d_Swing_horn_14 ?_
  exact zri E hK hP hD hS d_Swing_horn_15
