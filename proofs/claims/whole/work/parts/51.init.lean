set_option maxHeartbeats 1000000 in
set_option maxRecDepth 100000 in
theorem c_Lamp_init (l : Launch) (dC : Nat → ClassId) (dI : Nat → Nat → Nat) (tys : List (ClassId × FieldType)) (A : Nat → Prop) (aL k : Nat) (hk : k < 9) (aC : Nat) (kd ht : Int32) (ws : va_W) : zM l y_Lamp_init b_Lamp_init 4 none 1 20 [.ref aL, .ref aC, .int kd, .int ht] (dC, dI) tys A (ws ++ [(aL, .inr (k, [.null, .int 0, .int 0, .int 0, .int 0, .int 0]))]) (ws ++ [wL aC aL k kd ht 0 0 0]) none := by
  refine zM_ofI "CoastLamps$Lamp" rfl (by decide) (Nat.le_of_ble_eq_true rfl) ?_
  intro p e s m below meth c ls E hnm hP hK hD hS hl
  obtain ⟨hx, hb, hml, ho, hts, hr, hlk⟩ := id E
  have hl : lv_has ls 4 [(0, .ref aL), (1, .ref aC), (2, .int kd), (3, .int ht)] := hl
  refine lv_aload_n hx hb d_Lamp_init_0 rfl (lv_at hl 0 rfl) ?_
  refine zobj E hl.1 kw_96 kw_21 kw_22 d_Lamp_init_1 (Nat.le_of_ble_eq_true rfl) (Nat.le_of_ble_eq_true rfl) ?_
  refine lv_aload_n hx hb d_Lamp_init_4 rfl (lv_at hl 0 rfl) ?_
  refine lv_aload_n hx hb d_Lamp_init_5 rfl (lv_at hl 1 rfl) ?_
  refine zputF (ci := k) (fs := [.null, .int 0, .int 0, .int 0, .int 0, .int 0]) (ty := .object "CoastLamps$Coast") (v := .ref aC) (ws2 := ws ++ [(aL, .inr (k, [.ref aC, .int 0, .int 0, .int 0, .int 0, .int 0]))]) E hnm hK hP hD hS ws.length zpA (zC_K hk) t_Lamp o_Lamp n_Lamp 0 (by decide) kw_97 rfl rfl rfl rfl rfl rfl (Nat.le_of_ble_eq_true rfl) d_Lamp_init_6 zpS (fun H locs hP hD hS => ?_)
  have hP : va_P (dC, dI) classes (ws ++ [(aL, .inr (k, [.ref aC, .int 0, .int 0, .int 0, .int 0, .int 0]))]) H := hP
  have hD : va_D A (ws ++ [(aL, .inr (k, [.ref aC, .int 0, .int 0, .int 0, .int 0, .int 0]))]) := hD
  refine lv_aload_n hx hb d_Lamp_init_9 rfl (lv_at hl 0 rfl) ?_
  refine lv_iload_n hx hb d_Lamp_init_10 rfl (lv_at hl 2 rfl) ?_
  refine zputF (ci := k) (fs := [.ref aC, .int 0, .int 0, .int 0, .int 0, .int 0]) (ty := .int) (v := .int kd) (ws2 := ws ++ [(aL, .inr (k, [.ref aC, .int kd, .int 0, .int 0, .int 0, .int 0]))]) E hnm hK hP hD hS ws.length zpA (zC_K hk) t_Lamp o_Lamp n_Lamp 1 (by decide) kw_116 rfl rfl rfl rfl rfl rfl (Nat.le_of_ble_eq_true rfl) d_Lamp_init_11 zpS (fun H locs hP hD hS => ?_)
  have hP : va_P (dC, dI) classes (ws ++ [(aL, .inr (k, [.ref aC, .int kd, .int 0, .int 0, .int 0, .int 0]))]) H := hP
  have hD : va_D A (ws ++ [(aL, .inr (k, [.ref aC, .int kd, .int 0, .int 0, .int 0, .int 0]))]) := hD
  refine lv_aload_n hx hb d_Lamp_init_14 rfl (lv_at hl 0 rfl) ?_
  refine lv_iload_n hx hb d_Lamp_init_15 rfl (lv_at hl 3 rfl) ?_
  refine zputF (ci := k) (fs := [.ref aC, .int kd, .int 0, .int 0, .int 0, .int 0]) (ty := .int) (v := .int ht) (ws2 := ws ++ [(aL, .inr (k, [.ref aC, .int kd, .int ht, .int 0, .int 0, .int 0]))]) E hnm hK hP hD hS ws.length zpA (zC_K hk) t_Lamp o_Lamp n_Lamp 2 (by decide) kw_118 rfl rfl rfl rfl rfl rfl (Nat.le_of_ble_eq_true rfl) d_Lamp_init_16 zpS (fun H locs hP hD hS => ?_)
  have hP : va_P (dC, dI) classes (ws ++ [(aL, .inr (k, [.ref aC, .int kd, .int ht, .int 0, .int 0, .int 0]))]) H := hP
  have hD : va_D A (ws ++ [(aL, .inr (k, [.ref aC, .int kd, .int ht, .int 0, .int 0, .int 0]))]) := hD
  exact zrv E hK hP hD hS d_Lamp_init_19
set_option maxHeartbeats 1000000 in
set_option maxRecDepth 100000 in
theorem c_Oil_init (l : Launch) (dC : Nat → ClassId) (dI : Nat → Nat → Nat) (tys : List (ClassId × FieldType)) (A : Nat → Prop) (aL k : Nat) (hk : k < 9) (aC : Nat) (kd ht : Int32) (ws : va_W) : zM l y_Oil_init b_Oil_init 4 none 2 43 [.ref aL, .ref aC, .int kd, .int ht] (dC, dI) tys A (ws ++ [(aL, .inr (k, [.null, .int 0, .int 0, .int 0, .int 0, .int 0]))]) (ws ++ [wL aC aL k kd ht 0 0 0]) none := by
  refine zM_ofI "CoastLamps$Oil" rfl (by decide) (Nat.le_of_ble_eq_true rfl) ?_
  intro p e s m below meth c ls E hnm hP hK hD hS hl
  obtain ⟨hx, hb, hml, ho, hts, hr, hlk⟩ := id E
  have hl : lv_has ls 4 [(0, .ref aL), (1, .ref aC), (2, .int kd), (3, .int ht)] := hl
  refine lv_aload_n hx hb d_Oil_init_0 rfl (lv_at hl 0 rfl) ?_
  refine lv_aload_n hx hb d_Oil_init_1 rfl (lv_at hl 1 rfl) ?_
  refine lv_iload_n hx hb d_Oil_init_2 rfl (lv_at hl 2 rfl) ?_
  refine lv_iload_n hx hb d_Oil_init_3 rfl (lv_at hl 3 rfl) ?_
  refine zcI (As := [.ref aC, .int kd, .int ht]) (rest := []) E cy_Lamp_init kw_94 rfl kw_93 (c_Lamp_init l dC dI tys A aL k hk aC kd ht ws) hK hP hD hS rfl hl.1 rfl (Nat.le_of_ble_eq_true rfl) ⟨Nat.le_of_ble_eq_true rfl, Nat.le_of_ble_eq_true rfl⟩ d_Oil_init_4 ⟨Nat.le_refl _, Nat.le_refl _⟩ (fun H locs hP hD hS => ?_)
  exact zrv E hK hP hD hS d_Oil_init_7
set_option maxHeartbeats 1000000 in
set_option maxRecDepth 100000 in
theorem c_Round_init (l : Launch) (dC : Nat → ClassId) (dI : Nat → Nat → Nat) (tys : List (ClassId × FieldType)) (A : Nat → Prop) (aL k : Nat) (hk : k < 9) (aC : Nat) (kd ht : Int32) (ws : va_W) : zM l y_Round_init b_Round_init 4 none 3 66 [.ref aL, .ref aC, .int kd, .int ht] (dC, dI) tys A (ws ++ [(aL, .inr (k, [.null, .int 0, .int 0, .int 0, .int 0, .int 0]))]) (ws ++ [wL aC aL k kd ht 0 0 0]) none := by
  refine zM_ofI "CoastLamps$Round" rfl (by decide) (Nat.le_of_ble_eq_true rfl) ?_
  intro p e s m below meth c ls E hnm hP hK hD hS hl
  obtain ⟨hx, hb, hml, ho, hts, hr, hlk⟩ := id E
  have hl : lv_has ls 4 [(0, .ref aL), (1, .ref aC), (2, .int kd), (3, .int ht)] := hl
  refine lv_aload_n hx hb d_Round_init_0 rfl (lv_at hl 0 rfl) ?_
  refine lv_aload_n hx hb d_Round_init_1 rfl (lv_at hl 1 rfl) ?_
  refine lv_iload_n hx hb d_Round_init_2 rfl (lv_at hl 2 rfl) ?_
  refine lv_iload_n hx hb d_Round_init_3 rfl (lv_at hl 3 rfl) ?_
  refine zcI (As := [.ref aC, .int kd, .int ht]) (rest := []) E cy_Oil_init kw_91 rfl kw_152 (c_Oil_init l dC dI tys A aL k hk aC kd ht ws) hK hP hD hS rfl hl.1 rfl (Nat.le_of_ble_eq_true rfl) ⟨Nat.le_of_ble_eq_true rfl, Nat.le_of_ble_eq_true rfl⟩ d_Round_init_4 ⟨Nat.le_refl _, Nat.le_refl _⟩ (fun H locs hP hD hS => ?_)
  exact zrv E hK hP hD hS d_Round_init_7
set_option maxHeartbeats 1000000 in
set_option maxRecDepth 100000 in
theorem c_Twin_init (l : Launch) (dC : Nat → ClassId) (dI : Nat → Nat → Nat) (tys : List (ClassId × FieldType)) (A : Nat → Prop) (aL k : Nat) (hk : k < 9) (aC : Nat) (kd ht : Int32) (ws : va_W) : zM l y_Twin_init b_Twin_init 4 none 4 89 [.ref aL, .ref aC, .int kd, .int ht] (dC, dI) tys A (ws ++ [(aL, .inr (k, [.null, .int 0, .int 0, .int 0, .int 0, .int 0]))]) (ws ++ [wL aC aL k kd ht 0 0 0]) none := by
  refine zM_ofI "CoastLamps$Twin" rfl (by decide) (Nat.le_of_ble_eq_true rfl) ?_
  intro p e s m below meth c ls E hnm hP hK hD hS hl
  obtain ⟨hx, hb, hml, ho, hts, hr, hlk⟩ := id E
  have hl : lv_has ls 4 [(0, .ref aL), (1, .ref aC), (2, .int kd), (3, .int ht)] := hl
  refine lv_aload_n hx hb d_Twin_init_0 rfl (lv_at hl 0 rfl) ?_
  refine lv_aload_n hx hb d_Twin_init_1 rfl (lv_at hl 1 rfl) ?_
  refine lv_iload_n hx hb d_Twin_init_2 rfl (lv_at hl 2 rfl) ?_
  refine lv_iload_n hx hb d_Twin_init_3 rfl (lv_at hl 3 rfl) ?_
  refine zcI (As := [.ref aC, .int kd, .int ht]) (rest := []) E cy_Round_init kw_150 rfl kw_165 (c_Round_init l dC dI tys A aL k hk aC kd ht ws) hK hP hD hS rfl hl.1 rfl (Nat.le_of_ble_eq_true rfl) ⟨Nat.le_of_ble_eq_true rfl, Nat.le_of_ble_eq_true rfl⟩ d_Twin_init_4 ⟨Nat.le_refl _, Nat.le_refl _⟩ (fun H locs hP hD hS => ?_)
  exact zrv E hK hP hD hS d_Twin_init_7
set_option maxHeartbeats 1000000 in
set_option maxRecDepth 100000 in
theorem c_Drum_init (l : Launch) (dC : Nat → ClassId) (dI : Nat → Nat → Nat) (tys : List (ClassId × FieldType)) (A : Nat → Prop) (aL k : Nat) (hk : k < 9) (aC : Nat) (kd ht : Int32) (ws : va_W) : zM l y_Drum_init b_Drum_init 4 none 5 112 [.ref aL, .ref aC, .int kd, .int ht] (dC, dI) tys A (ws ++ [(aL, .inr (k, [.null, .int 0, .int 0, .int 0, .int 0, .int 0]))]) (ws ++ [wL aC aL k kd ht 0 0 0]) none := by
  refine zM_ofI "CoastLamps$Drum" rfl (by decide) (Nat.le_of_ble_eq_true rfl) ?_
  intro p e s m below meth c ls E hnm hP hK hD hS hl
  obtain ⟨hx, hb, hml, ho, hts, hr, hlk⟩ := id E
  have hl : lv_has ls 4 [(0, .ref aL), (1, .ref aC), (2, .int kd), (3, .int ht)] := hl
  refine lv_aload_n hx hb d_Drum_init_0 rfl (lv_at hl 0 rfl) ?_
  refine lv_aload_n hx hb d_Drum_init_1 rfl (lv_at hl 1 rfl) ?_
  refine lv_iload_n hx hb d_Drum_init_2 rfl (lv_at hl 2 rfl) ?_
  refine lv_iload_n hx hb d_Drum_init_3 rfl (lv_at hl 3 rfl) ?_
  refine zcI (As := [.ref aC, .int kd, .int ht]) (rest := []) E cy_Twin_init kw_163 rfl kw_178 (c_Twin_init l dC dI tys A aL k hk aC kd ht ws) hK hP hD hS rfl hl.1 rfl (Nat.le_of_ble_eq_true rfl) ⟨Nat.le_of_ble_eq_true rfl, Nat.le_of_ble_eq_true rfl⟩ d_Drum_init_4 ⟨Nat.le_refl _, Nat.le_refl _⟩ (fun H locs hP hD hS => ?_)
  exact zrv E hK hP hD hS d_Drum_init_7
set_option maxHeartbeats 1000000 in
set_option maxRecDepth 100000 in
theorem c_Swing_init (l : Launch) (dC : Nat → ClassId) (dI : Nat → Nat → Nat) (tys : List (ClassId × FieldType)) (A : Nat → Prop) (aL k : Nat) (hk : k < 9) (aC : Nat) (kd ht : Int32) (ws : va_W) : zM l y_Swing_init b_Swing_init 4 none 6 135 [.ref aL, .ref aC, .int kd, .int ht] (dC, dI) tys A (ws ++ [(aL, .inr (k, [.null, .int 0, .int 0, .int 0, .int 0, .int 0]))]) (ws ++ [wL aC aL k kd ht 0 0 0]) none := by
  refine zM_ofI "CoastLamps$Swing" rfl (by decide) (Nat.le_of_ble_eq_true rfl) ?_
  intro p e s m below meth c ls E hnm hP hK hD hS hl
  obtain ⟨hx, hb, hml, ho, hts, hr, hlk⟩ := id E
  have hl : lv_has ls 4 [(0, .ref aL), (1, .ref aC), (2, .int kd), (3, .int ht)] := hl
  refine lv_aload_n hx hb d_Swing_init_0 rfl (lv_at hl 0 rfl) ?_
  refine lv_aload_n hx hb d_Swing_init_1 rfl (lv_at hl 1 rfl) ?_
  refine lv_iload_n hx hb d_Swing_init_2 rfl (lv_at hl 2 rfl) ?_
  refine lv_iload_n hx hb d_Swing_init_3 rfl (lv_at hl 3 rfl) ?_
  refine zcI (As := [.ref aC, .int kd, .int ht]) (rest := []) E cy_Drum_init kw_176 rfl kw_191 (c_Drum_init l dC dI tys A aL k hk aC kd ht ws) hK hP hD hS rfl hl.1 rfl (Nat.le_of_ble_eq_true rfl) ⟨Nat.le_of_ble_eq_true rfl, Nat.le_of_ble_eq_true rfl⟩ d_Swing_init_4 ⟨Nat.le_refl _, Nat.le_refl _⟩ (fun H locs hP hD hS => ?_)
  exact zrv E hK hP hD hS d_Swing_init_7
set_option maxHeartbeats 1000000 in
set_option maxRecDepth 100000 in
theorem c_Gas_init (l : Launch) (dC : Nat → ClassId) (dI : Nat → Nat → Nat) (tys : List (ClassId × FieldType)) (A : Nat → Prop) (aL k : Nat) (hk : k < 9) (aC : Nat) (kd ht : Int32) (ws : va_W) : zM l y_Gas_init b_Gas_init 4 none 2 43 [.ref aL, .ref aC, .int kd, .int ht] (dC, dI) tys A (ws ++ [(aL, .inr (k, [.null, .int 0, .int 0, .int 0, .int 0, .int 0]))]) (ws ++ [wL aC aL k kd ht 0 0 0]) none := by
  refine zM_ofI "CoastLamps$Gas" rfl (by decide) (Nat.le_of_ble_eq_true rfl) ?_
  intro p e s m below meth c ls E hnm hP hK hD hS hl
  obtain ⟨hx, hb, hml, ho, hts, hr, hlk⟩ := id E
  have hl : lv_has ls 4 [(0, .ref aL), (1, .ref aC), (2, .int kd), (3, .int ht)] := hl
  refine lv_aload_n hx hb d_Gas_init_0 rfl (lv_at hl 0 rfl) ?_
  refine lv_aload_n hx hb d_Gas_init_1 rfl (lv_at hl 1 rfl) ?_
  refine lv_iload_n hx hb d_Gas_init_2 rfl (lv_at hl 2 rfl) ?_
  refine lv_iload_n hx hb d_Gas_init_3 rfl (lv_at hl 3 rfl) ?_
  refine zcI (As := [.ref aC, .int kd, .int ht]) (rest := []) E cy_Lamp_init kw_94 rfl kw_204 (c_Lamp_init l dC dI tys A aL k hk aC kd ht ws) hK hP hD hS rfl hl.1 rfl (Nat.le_of_ble_eq_true rfl) ⟨Nat.le_of_ble_eq_true rfl, Nat.le_of_ble_eq_true rfl⟩ d_Gas_init_4 ⟨Nat.le_refl _, Nat.le_refl _⟩ (fun H locs hP hD hS => ?_)
  exact zrv E hK hP hD hS d_Gas_init_7
set_option maxHeartbeats 1000000 in
set_option maxRecDepth 100000 in
theorem c_Flare_init (l : Launch) (dC : Nat → ClassId) (dI : Nat → Nat → Nat) (tys : List (ClassId × FieldType)) (A : Nat → Prop) (aL k : Nat) (hk : k < 9) (aC : Nat) (kd ht : Int32) (ws : va_W) : zM l y_Flare_init b_Flare_init 4 none 3 66 [.ref aL, .ref aC, .int kd, .int ht] (dC, dI) tys A (ws ++ [(aL, .inr (k, [.null, .int 0, .int 0, .int 0, .int 0, .int 0]))]) (ws ++ [wL aC aL k kd ht 0 0 0]) none := by
  refine zM_ofI "CoastLamps$Flare" rfl (by decide) (Nat.le_of_ble_eq_true rfl) ?_
  intro p e s m below meth c ls E hnm hP hK hD hS hl
  obtain ⟨hx, hb, hml, ho, hts, hr, hlk⟩ := id E
  have hl : lv_has ls 4 [(0, .ref aL), (1, .ref aC), (2, .int kd), (3, .int ht)] := hl
  refine lv_aload_n hx hb d_Flare_init_0 rfl (lv_at hl 0 rfl) ?_
  refine lv_aload_n hx hb d_Flare_init_1 rfl (lv_at hl 1 rfl) ?_
  refine lv_iload_n hx hb d_Flare_init_2 rfl (lv_at hl 2 rfl) ?_
  refine lv_iload_n hx hb d_Flare_init_3 rfl (lv_at hl 3 rfl) ?_
  refine zcI (As := [.ref aC, .int kd, .int ht]) (rest := []) E cy_Gas_init kw_202 rfl kw_217 (c_Gas_init l dC dI tys A aL k hk aC kd ht ws) hK hP hD hS rfl hl.1 rfl (Nat.le_of_ble_eq_true rfl) ⟨Nat.le_of_ble_eq_true rfl, Nat.le_of_ble_eq_true rfl⟩ d_Flare_init_4 ⟨Nat.le_refl _, Nat.le_refl _⟩ (fun H locs hP hD hS => ?_)
  exact zrv E hK hP hD hS d_Flare_init_7
set_option maxHeartbeats 1000000 in
set_option maxRecDepth 100000 in
theorem c_Buoy_init (l : Launch) (dC : Nat → ClassId) (dI : Nat → Nat → Nat) (tys : List (ClassId × FieldType)) (A : Nat → Prop) (aL k : Nat) (hk : k < 9) (aC : Nat) (kd ht : Int32) (ws : va_W) : zM l y_Buoy_init b_Buoy_init 4 none 4 89 [.ref aL, .ref aC, .int kd, .int ht] (dC, dI) tys A (ws ++ [(aL, .inr (k, [.null, .int 0, .int 0, .int 0, .int 0, .int 0]))]) (ws ++ [wL aC aL k kd ht 0 0 0]) none := by
  refine zM_ofI "CoastLamps$Buoy" rfl (by decide) (Nat.le_of_ble_eq_true rfl) ?_
  intro p e s m below meth c ls E hnm hP hK hD hS hl
  obtain ⟨hx, hb, hml, ho, hts, hr, hlk⟩ := id E
  have hl : lv_has ls 4 [(0, .ref aL), (1, .ref aC), (2, .int kd), (3, .int ht)] := hl
  refine lv_aload_n hx hb d_Buoy_init_0 rfl (lv_at hl 0 rfl) ?_
  refine lv_aload_n hx hb d_Buoy_init_1 rfl (lv_at hl 1 rfl) ?_
  refine lv_iload_n hx hb d_Buoy_init_2 rfl (lv_at hl 2 rfl) ?_
  refine lv_iload_n hx hb d_Buoy_init_3 rfl (lv_at hl 3 rfl) ?_
  refine zcI (As := [.ref aC, .int kd, .int ht]) (rest := []) E cy_Flare_init kw_215 rfl kw_230 (c_Flare_init l dC dI tys A aL k hk aC kd ht ws) hK hP hD hS rfl hl.1 rfl (Nat.le_of_ble_eq_true rfl) ⟨Nat.le_of_ble_eq_true rfl, Nat.le_of_ble_eq_true rfl⟩ d_Buoy_init_4 ⟨Nat.le_refl _, Nat.le_refl _⟩ (fun H locs hP hD hS => ?_)
  exact zrv E hK hP hD hS d_Buoy_init_7
set_option maxHeartbeats 1000000 in
set_option maxRecDepth 100000 in
theorem c_Outer_init (l : Launch) (dC : Nat → ClassId) (dI : Nat → Nat → Nat) (tys : List (ClassId × FieldType)) (A : Nat → Prop) (aL k : Nat) (hk : k < 9) (aC : Nat) (kd ht : Int32) (ws : va_W) : zM l y_Outer_init b_Outer_init 4 none 5 112 [.ref aL, .ref aC, .int kd, .int ht] (dC, dI) tys A (ws ++ [(aL, .inr (k, [.null, .int 0, .int 0, .int 0, .int 0, .int 0]))]) (ws ++ [wL aC aL k kd ht 0 0 0]) none := by
  refine zM_ofI "CoastLamps$Outer" rfl (by decide) (Nat.le_of_ble_eq_true rfl) ?_
  intro p e s m below meth c ls E hnm hP hK hD hS hl
  obtain ⟨hx, hb, hml, ho, hts, hr, hlk⟩ := id E
  have hl : lv_has ls 4 [(0, .ref aL), (1, .ref aC), (2, .int kd), (3, .int ht)] := hl
  refine lv_aload_n hx hb d_Outer_init_0 rfl (lv_at hl 0 rfl) ?_
  refine lv_aload_n hx hb d_Outer_init_1 rfl (lv_at hl 1 rfl) ?_
  refine lv_iload_n hx hb d_Outer_init_2 rfl (lv_at hl 2 rfl) ?_
  refine lv_iload_n hx hb d_Outer_init_3 rfl (lv_at hl 3 rfl) ?_
  refine zcI (As := [.ref aC, .int kd, .int ht]) (rest := []) E cy_Buoy_init kw_228 rfl kw_243 (c_Buoy_init l dC dI tys A aL k hk aC kd ht ws) hK hP hD hS rfl hl.1 rfl (Nat.le_of_ble_eq_true rfl) ⟨Nat.le_of_ble_eq_true rfl, Nat.le_of_ble_eq_true rfl⟩ d_Outer_init_4 ⟨Nat.le_refl _, Nat.le_refl _⟩ (fun H locs hP hD hS => ?_)
  exact zrv E hK hP hD hS d_Outer_init_7
set_option maxHeartbeats 1000000 in
set_option maxRecDepth 100000 in
theorem c_Coast_init (l : Launch) (dC : Nat → ClassId) (dI : Nat → Nat → Nat) (A : Nat → Prop) (aC : Nat) (ws : va_W) : zMa l y_Coast_init b_Coast_init 1 none 1 20 2 1008 [.ref aC] (dC, dI) [] A (ws ++ [(aC, .inr (9, [.null, .null, .int 0]))]) (fun rv t => rv = none ∧ ∃ (aD aE : Nat) (c1 c2 : ClassId), zW (dC, dI) [(c1, .int), (c2, .int)] A (ws ++ [(aC, .inr (9, [.ref aD, .ref aE, .int 0])), (aD, .inl (c1, 8, .inl (fun _ => 0))), (aE, .inl (c2, 1000, .inl (fun _ => 0)))]) t) := by
  refine zMa_of "CoastLamps$Coast" rfl (by decide) (Nat.le_of_ble_eq_true rfl) ?_
  intro p e s m below meth c ls E hnm hB hA hP hK hD hS hl
  obtain ⟨hx, hb, hml, ho, hts, hr, hlk⟩ := id E
  have hl : lv_has ls 1 [(0, .ref aC)] := hl
  refine lv_aload_n hx hb d_Coast_init_0 rfl (lv_at hl 0 rfl) ?_
  refine zobj E hl.1 kw_28 kw_21 kw_22 d_Coast_init_1 (Nat.le_of_ble_eq_true rfl) (Nat.le_of_ble_eq_true rfl) ?_
  refine lv_aload_n hx hb d_Coast_init_4 rfl (lv_at hl 0 rfl) ?_
  refine lv_bipush (v := 8) hx hb d_Coast_init_5 (by decide) ?_
  refine va_newa (atype := .int) (ty := .int) (a0 := (8, .inl (fun _ => 0))) (N' := 8) hx hb (hts _ kw_40) rfl hK hP hD hS hA (fun _ => rfl) (by decide) (by decide) (by decide) (Nat.le_of_ble_eq_true rfl) (Nat.le_of_ble_eq_true rfl) d_Coast_init_7 (fun q7 e7 H hK hP hD hS => ?_)
  rw [List.append_assoc] at hP hD
  have hK : va_K (dC, dI) classes [(e7, .int)] s := hK
  have hP : va_P (dC, dI) classes (ws ++ [(aC, .inr (9, [.null, .null, .int 0])), (q7, .inl (e7, 8, .inl (fun _ => 0)))]) H := hP
  have hD : va_D A (ws ++ [(aC, .inr (9, [.null, .null, .int 0])), (q7, .inl (e7, 8, .inl (fun _ => 0)))]) := hD
  refine zputF (ci := 9) (fs := [.null, .null, .int 0]) (ty := .array .int) (v := .ref q7) (ws2 := ws ++ [(aC, .inr (9, [.ref q7, .null, .int 0])), (q7, .inl (e7, 8, .inl (fun _ => 0)))]) E hnm hK hP hD hS ws.length zpA zC_Coast t_Coast o_Coast n_Coast 0 (by decide) kw_29 rfl rfl rfl rfl rfl rfl (Nat.le_of_ble_eq_true rfl) d_Coast_init_9 zpS (fun H locs hP hD hS => ?_)
  have hP : va_P (dC, dI) classes (ws ++ [(aC, .inr (9, [.ref q7, .null, .int 0])), (q7, .inl (e7, 8, .inl (fun _ => 0)))]) H := hP
  have hD : va_D A (ws ++ [(aC, .inr (9, [.ref q7, .null, .int 0])), (q7, .inl (e7, 8, .inl (fun _ => 0)))]) := hD
  refine lv_aload_n hx hb d_Coast_init_12 rfl (lv_at hl 0 rfl) ?_
  refine lv_sipush (v := 1000) hx hb d_Coast_init_13 (by decide) ?_
  refine va_newa (atype := .int) (ty := .int) (a0 := (1000, .inl (fun _ => 0))) (N' := 1000) hx hb (hts _ kw_40) rfl hK hP hD hS hA (fun _ => rfl) (by decide) (by decide) (by decide) (Nat.le_of_ble_eq_true rfl) (Nat.le_of_ble_eq_true rfl) d_Coast_init_16 (fun q16 e16 H hK hP hD hS => ?_)
  rw [List.append_assoc] at hP hD
  have hK : va_K (dC, dI) classes [(e7, .int), (e16, .int)] s := hK
  have hP : va_P (dC, dI) classes (ws ++ [(aC, .inr (9, [.ref q7, .null, .int 0])), (q7, .inl (e7, 8, .inl (fun _ => 0))), (q16, .inl (e16, 1000, .inl (fun _ => 0)))]) H := hP
  have hD : va_D A (ws ++ [(aC, .inr (9, [.ref q7, .null, .int 0])), (q7, .inl (e7, 8, .inl (fun _ => 0))), (q16, .inl (e16, 1000, .inl (fun _ => 0)))]) := hD
  refine zputF (ci := 9) (fs := [.ref q7, .null, .int 0]) (ty := .array .int) (v := .ref q16) (ws2 := ws ++ [(aC, .inr (9, [.ref q7, .ref q16, .int 0])), (q7, .inl (e7, 8, .inl (fun _ => 0))), (q16, .inl (e16, 1000, .inl (fun _ => 0)))]) E hnm hK hP hD hS ws.length zpA zC_Coast t_Coast o_Coast n_Coast 1 (by decide) kw_30 rfl rfl rfl rfl rfl rfl (Nat.le_of_ble_eq_true rfl) d_Coast_init_18 zpS (fun H locs hP hD hS => ?_)
  have hP : va_P (dC, dI) classes (ws ++ [(aC, .inr (9, [.ref q7, .ref q16, .int 0])), (q7, .inl (e7, 8, .inl (fun _ => 0))), (q16, .inl (e16, 1000, .inl (fun _ => 0)))]) H := hP
  have hD : va_D A (ws ++ [(aC, .inr (9, [.ref q7, .ref q16, .int 0])), (q7, .inl (e7, 8, .inl (fun _ => 0))), (q16, .inl (e16, 1000, .inl (fun _ => 0)))]) := hD
  exact zrvA E hS (fun t ht hW => ⟨rfl, q7, q16, e7, e16, ⟨by rw [ht]; exact hP, va_K.moved hW.alike hK, hD⟩⟩) d_Coast_init_21
/-- the state of a new object -/
def zA0 : zA := (fun _ => 0, 0, fun _ => 4294967295, fun _ => 0, fun _ => 0, fun _ => 0, fun _ => 0, 0, 0, 0, 0, (fun _ => 0, ⟨0, by decide⟩))
theorem zA0_inv : zInv zA0 := ⟨Nat.zero_le _, fun i h => absurd h (Nat.not_lt_zero i), fun _ _ => ⟨rfl, rfl, rfl⟩⟩
theorem kd0 : kdF (fun _ => 4294967295) = (fun _ => 0) := by
  funext i
  show nI (4294967295 + 1) = 0
  decide +kernel
theorem mW_0 (g1 g2 g3 g4 g5 g6 g7 : ClassId) (aM m1 m2 m3 m4 m5 m6 m7 : Nat) : wm g1 g2 g3 g4 g5 g6 g7 aM m1 m2 m3 m4 m5 m6 m7 (fun _ => 0) 0 (fun _ => 0) (fun _ => 0) (fun _ => 0) (fun _ => 0) (fun _ => 0) 0 0 0 0 (fun _ => 0, ⟨0, by decide⟩) = mW g1 g2 g3 g4 g5 g6 g7 aM m1 m2 m3 m4 m5 m6 m7 zA0 := by
  show _ = wm g1 g2 g3 g4 g5 g6 g7 aM m1 m2 m3 m4 m5 m6 m7 (fun _ => 0) 0 (kdF (fun _ => 4294967295)) (fun _ => 0) (fun _ => 0) (fun _ => 0) (fun _ => 0) 0 0 0 0 (fun _ => 0, ⟨0, by decide⟩)
  rw [kd0]
set_option maxHeartbeats 1000000 in
set_option maxRecDepth 100000 in
theorem c_M_init (l : Launch) (dC : Nat → ClassId) (dI : Nat → Nat → Nat) (A : Nat → Prop) (aM : Nat) (ws : va_W) : zMa l y_M_init b_M_init 1 none 1 20 7 1308 [.ref aM] (dC, dI) [] A (ws ++ [(aM, .inr (11, [.null, .int 0, .null, .null, .null, .null, .null, .long 0, .int 0, .int 0, .int 0, .null, .int 0]))]) (fun rv t => rv = none ∧ ∃ (g1 g2 g3 g4 g5 g6 g7 : ClassId) (m1 m2 m3 m4 m5 m6 m7 : Nat), zW (dC, dI) (t7 g1 g2 g3 g4 g5 g6 g7) A (ws ++ wm g1 g2 g3 g4 g5 g6 g7 aM m1 m2 m3 m4 m5 m6 m7 (fun _ => 0) 0 (fun _ => 0) (fun _ => 0) (fun _ => 0) (fun _ => 0) (fun _ => 0) 0 0 0 0 (fun _ => 0, ⟨0, by decide⟩)) t) := by
  refine zMa_of "CoastLampsModel" rfl (by decide) (Nat.le_of_ble_eq_true rfl) ?_
  intro p e s m below meth c ls E hnm hB hA hP hK hD hS hl
  obtain ⟨hx, hb, hml, ho, hts, hr, hlk⟩ := id E
  have hl : lv_has ls 1 [(0, .ref aM)] := hl
  refine lv_aload_n hx hb d_M_init_0 rfl (lv_at hl 0 rfl) ?_
  refine zobj E hl.1 kw_589 kw_21 kw_22 d_M_init_1 (Nat.le_of_ble_eq_true rfl) (Nat.le_of_ble_eq_true rfl) ?_
  refine lv_aload_n hx hb d_M_init_4 rfl (lv_at hl 0 rfl) ?_
  refine lv_bipush (v := 8) hx hb d_M_init_5 (by decide) ?_
  refine va_newa (atype := .int) (ty := .int) (a0 := (8, .inl (fun _ => 0))) (N' := 8) hx hb (hts _ kw_40) rfl hK hP hD hS hA (fun _ => rfl) (by decide) (by decide) (by decide) (Nat.le_of_ble_eq_true rfl) (Nat.le_of_ble_eq_true rfl) d_M_init_7 (fun q7 e7 H hK hP hD hS => ?_)
  rw [List.append_assoc] at hP hD
  have hK : va_K (dC, dI) classes [(e7, .int)] s := hK
  have hP : va_P (dC, dI) classes (ws ++ [(aM, .inr (11, [.null, .int 0, .null, .null, .null, .null, .null, .long 0, .int 0, .int 0, .int 0, .null, .int 0])), (q7, .inl (e7, 8, .inl (fun _ => 0)))]) H := hP
  have hD : va_D A (ws ++ [(aM, .inr (11, [.null, .int 0, .null, .null, .null, .null, .null, .long 0, .int 0, .int 0, .int 0, .null, .int 0])), (q7, .inl (e7, 8, .inl (fun _ => 0)))]) := hD
  refine zputF (ci := 11) (fs := [.null, .int 0, .null, .null, .null, .null, .null, .long 0, .int 0, .int 0, .int 0, .null, .int 0]) (ty := .array .int) (v := .ref q7) (ws2 := ws ++ [(aM, .inr (11, [.ref q7, .int 0, .null, .null, .null, .null, .null, .long 0, .int 0, .int 0, .int 0, .null, .int 0])), (q7, .inl (e7, 8, .inl (fun _ => 0)))]) E hnm hK hP hD hS ws.length zpA zC_M t_M o_M n_M 0 (by decide) kw_590 rfl rfl rfl rfl rfl rfl (Nat.le_of_ble_eq_true rfl) d_M_init_9 zpS (fun H locs hP hD hS => ?_)
  have hP : va_P (dC, dI) classes (ws ++ [(aM, .inr (11, [.ref q7, .int 0, .null, .null, .null, .null, .null, .long 0, .int 0, .int 0, .int 0, .null, .int 0])), (q7, .inl (e7, 8, .inl (fun _ => 0)))]) H := hP
  have hD : va_D A (ws ++ [(aM, .inr (11, [.ref q7, .int 0, .null, .null, .null, .null, .null, .long 0, .int 0, .int 0, .int 0, .null, .int 0])), (q7, .inl (e7, 8, .inl (fun _ => 0)))]) := hD
  refine lv_aload_n hx hb d_M_init_12 rfl (lv_at hl 0 rfl) ?_
  refine lv_bipush (v := 60) hx hb d_M_init_13 (by decide) ?_
  refine va_newa (atype := .int) (ty := .int) (a0 := (60, .inl (fun _ => 0))) (N' := 60) hx hb (hts _ kw_40) rfl hK hP hD hS hA (fun _ => rfl) (by decide) (by decide) (by decide) (Nat.le_of_ble_eq_true rfl) (Nat.le_of_ble_eq_true rfl) d_M_init_15 (fun q15 e15 H hK hP hD hS => ?_)
  rw [List.append_assoc] at hP hD
  have hK : va_K (dC, dI) classes [(e7, .int), (e15, .int)] s := hK
  have hP : va_P (dC, dI) classes (ws ++ [(aM, .inr (11, [.ref q7, .int 0, .null, .null, .null, .null, .null, .long 0, .int 0, .int 0, .int 0, .null, .int 0])), (q7, .inl (e7, 8, .inl (fun _ => 0))), (q15, .inl (e15, 60, .inl (fun _ => 0)))]) H := hP
  have hD : va_D A (ws ++ [(aM, .inr (11, [.ref q7, .int 0, .null, .null, .null, .null, .null, .long 0, .int 0, .int 0, .int 0, .null, .int 0])), (q7, .inl (e7, 8, .inl (fun _ => 0))), (q15, .inl (e15, 60, .inl (fun _ => 0)))]) := hD
  refine zputF (ci := 11) (fs := [.ref q7, .int 0, .null, .null, .null, .null, .null, .long 0, .int 0, .int 0, .int 0, .null, .int 0]) (ty := .array .int) (v := .ref q15) (ws2 := ws ++ [(aM, .inr (11, [.ref q7, .int 0, .ref q15, .null, .null, .null, .null, .long 0, .int 0, .int 0, .int 0, .null, .int 0])), (q7, .inl (e7, 8, .inl (fun _ => 0))), (q15, .inl (e15, 60, .inl (fun _ => 0)))]) E hnm hK hP hD hS ws.length zpA zC_M t_M o_M n_M 2 (by decide) kw_592 rfl rfl rfl rfl rfl rfl (Nat.le_of_ble_eq_true rfl) d_M_init_17 zpS (fun H locs hP hD hS => ?_)
  have hP : va_P (dC, dI) classes (ws ++ [(aM, .inr (11, [.ref q7, .int 0, .ref q15, .null, .null, .null, .null, .long 0, .int 0, .int 0, .int 0, .null, .int 0])), (q7, .inl (e7, 8, .inl (fun _ => 0))), (q15, .inl (e15, 60, .inl (fun _ => 0)))]) H := hP
  have hD : va_D A (ws ++ [(aM, .inr (11, [.ref q7, .int 0, .ref q15, .null, .null, .null, .null, .long 0, .int 0, .int 0, .int 0, .null, .int 0])), (q7, .inl (e7, 8, .inl (fun _ => 0))), (q15, .inl (e15, 60, .inl (fun _ => 0)))]) := hD
  refine lv_aload_n hx hb d_M_init_20 rfl (lv_at hl 0 rfl) ?_
  refine lv_bipush (v := 60) hx hb d_M_init_21 (by decide) ?_
  refine va_newa (atype := .int) (ty := .int) (a0 := (60, .inl (fun _ => 0))) (N' := 60) hx hb (hts _ kw_40) rfl hK hP hD hS hA (fun _ => rfl) (by decide) (by decide) (by decide) (Nat.le_of_ble_eq_true rfl) (Nat.le_of_ble_eq_true rfl) d_M_init_23 (fun q23 e23 H hK hP hD hS => ?_)
  rw [List.append_assoc] at hP hD
  have hK : va_K (dC, dI) classes [(e7, .int), (e15, .int), (e23, .int)] s := hK
  have hP : va_P (dC, dI) classes (ws ++ [(aM, .inr (11, [.ref q7, .int 0, .ref q15, .null, .null, .null, .null, .long 0, .int 0, .int 0, .int 0, .null, .int 0])), (q7, .inl (e7, 8, .inl (fun _ => 0))), (q15, .inl (e15, 60, .inl (fun _ => 0))), (q23, .inl (e23, 60, .inl (fun _ => 0)))]) H := hP
  have hD : va_D A (ws ++ [(aM, .inr (11, [.ref q7, .int 0, .ref q15, .null, .null, .null, .null, .long 0, .int 0, .int 0, .int 0, .null, .int 0])), (q7, .inl (e7, 8, .inl (fun _ => 0))), (q15, .inl (e15, 60, .inl (fun _ => 0))), (q23, .inl (e23, 60, .inl (fun _ => 0)))]) := hD
  refine zputF (ci := 11) (fs := [.ref q7, .int 0, .ref q15, .null, .null, .null, .null, .long 0, .int 0, .int 0, .int 0, .null, .int 0]) (ty := .array .int) (v := .ref q23) (ws2 := ws ++ [(aM, .inr (11, [.ref q7, .int 0, .ref q15, .ref q23, .null, .null, .null, .long 0, .int 0, .int 0, .int 0, .null, .int 0])), (q7, .inl (e7, 8, .inl (fun _ => 0))), (q15, .inl (e15, 60, .inl (fun _ => 0))), (q23, .inl (e23, 60, .inl (fun _ => 0)))]) E hnm hK hP hD hS ws.length zpA zC_M t_M o_M n_M 3 (by decide) kw_593 rfl rfl rfl rfl rfl rfl (Nat.le_of_ble_eq_true rfl) d_M_init_25 zpS (fun H locs hP hD hS => ?_)
  have hP : va_P (dC, dI) classes (ws ++ [(aM, .inr (11, [.ref q7, .int 0, .ref q15, .ref q23, .null, .null, .null, .long 0, .int 0, .int 0, .int 0, .null, .int 0])), (q7, .inl (e7, 8, .inl (fun _ => 0))), (q15, .inl (e15, 60, .inl (fun _ => 0))), (q23, .inl (e23, 60, .inl (fun _ => 0)))]) H := hP
  have hD : va_D A (ws ++ [(aM, .inr (11, [.ref q7, .int 0, .ref q15, .ref q23, .null, .null, .null, .long 0, .int 0, .int 0, .int 0, .null, .int 0])), (q7, .inl (e7, 8, .inl (fun _ => 0))), (q15, .inl (e15, 60, .inl (fun _ => 0))), (q23, .inl (e23, 60, .inl (fun _ => 0)))]) := hD
  refine lv_aload_n hx hb d_M_init_28 rfl (lv_at hl 0 rfl) ?_
  refine lv_bipush (v := 60) hx hb d_M_init_29 (by decide) ?_
  refine va_newa (atype := .int) (ty := .int) (a0 := (60, .inl (fun _ => 0))) (N' := 60) hx hb (hts _ kw_40) rfl hK hP hD hS hA (fun _ => rfl) (by decide) (by decide) (by decide) (Nat.le_of_ble_eq_true rfl) (Nat.le_of_ble_eq_true rfl) d_M_init_31 (fun q31 e31 H hK hP hD hS => ?_)
  rw [List.append_assoc] at hP hD
  have hK : va_K (dC, dI) classes [(e7, .int), (e15, .int), (e23, .int), (e31, .int)] s := hK
  have hP : va_P (dC, dI) classes (ws ++ [(aM, .inr (11, [.ref q7, .int 0, .ref q15, .ref q23, .null, .null, .null, .long 0, .int 0, .int 0, .int 0, .null, .int 0])), (q7, .inl (e7, 8, .inl (fun _ => 0))), (q15, .inl (e15, 60, .inl (fun _ => 0))), (q23, .inl (e23, 60, .inl (fun _ => 0))), (q31, .inl (e31, 60, .inl (fun _ => 0)))]) H := hP
  have hD : va_D A (ws ++ [(aM, .inr (11, [.ref q7, .int 0, .ref q15, .ref q23, .null, .null, .null, .long 0, .int 0, .int 0, .int 0, .null, .int 0])), (q7, .inl (e7, 8, .inl (fun _ => 0))), (q15, .inl (e15, 60, .inl (fun _ => 0))), (q23, .inl (e23, 60, .inl (fun _ => 0))), (q31, .inl (e31, 60, .inl (fun _ => 0)))]) := hD
  refine zputF (ci := 11) (fs := [.ref q7, .int 0, .ref q15, .ref q23, .null, .null, .null, .long 0, .int 0, .int 0, .int 0, .null, .int 0]) (ty := .array .int) (v := .ref q31) (ws2 := ws ++ [(aM, .inr (11, [.ref q7, .int 0, .ref q15, .ref q23, .ref q31, .null, .null, .long 0, .int 0, .int 0, .int 0, .null, .int 0])), (q7, .inl (e7, 8, .inl (fun _ => 0))), (q15, .inl (e15, 60, .inl (fun _ => 0))), (q23, .inl (e23, 60, .inl (fun _ => 0))), (q31, .inl (e31, 60, .inl (fun _ => 0)))]) E hnm hK hP hD hS ws.length zpA zC_M t_M o_M n_M 4 (by decide) kw_594 rfl rfl rfl rfl rfl rfl (Nat.le_of_ble_eq_true rfl) d_M_init_33 zpS (fun H locs hP hD hS => ?_)
  have hP : va_P (dC, dI) classes (ws ++ [(aM, .inr (11, [.ref q7, .int 0, .ref q15, .ref q23, .ref q31, .null, .null, .long 0, .int 0, .int 0, .int 0, .null, .int 0])), (q7, .inl (e7, 8, .inl (fun _ => 0))), (q15, .inl (e15, 60, .inl (fun _ => 0))), (q23, .inl (e23, 60, .inl (fun _ => 0))), (q31, .inl (e31, 60, .inl (fun _ => 0)))]) H := hP
  have hD : va_D A (ws ++ [(aM, .inr (11, [.ref q7, .int 0, .ref q15, .ref q23, .ref q31, .null, .null, .long 0, .int 0, .int 0, .int 0, .null, .int 0])), (q7, .inl (e7, 8, .inl (fun _ => 0))), (q15, .inl (e15, 60, .inl (fun _ => 0))), (q23, .inl (e23, 60, .inl (fun _ => 0))), (q31, .inl (e31, 60, .inl (fun _ => 0)))]) := hD
  refine lv_aload_n hx hb d_M_init_36 rfl (lv_at hl 0 rfl) ?_
  refine lv_bipush (v := 60) hx hb d_M_init_37 (by decide) ?_
  refine va_newa (atype := .int) (ty := .int) (a0 := (60, .inl (fun _ => 0))) (N' := 60) hx hb (hts _ kw_40) rfl hK hP hD hS hA (fun _ => rfl) (by decide) (by decide) (by decide) (Nat.le_of_ble_eq_true rfl) (Nat.le_of_ble_eq_true rfl) d_M_init_39 (fun q39 e39 H hK hP hD hS => ?_)
  rw [List.append_assoc] at hP hD
  have hK : va_K (dC, dI) classes [(e7, .int), (e15, .int), (e23, .int), (e31, .int), (e39, .int)] s := hK
  have hP : va_P (dC, dI) classes (ws ++ [(aM, .inr (11, [.ref q7, .int 0, .ref q15, .ref q23, .ref q31, .null, .null, .long 0, .int 0, .int 0, .int 0, .null, .int 0])), (q7, .inl (e7, 8, .inl (fun _ => 0))), (q15, .inl (e15, 60, .inl (fun _ => 0))), (q23, .inl (e23, 60, .inl (fun _ => 0))), (q31, .inl (e31, 60, .inl (fun _ => 0))), (q39, .inl (e39, 60, .inl (fun _ => 0)))]) H := hP
  have hD : va_D A (ws ++ [(aM, .inr (11, [.ref q7, .int 0, .ref q15, .ref q23, .ref q31, .null, .null, .long 0, .int 0, .int 0, .int 0, .null, .int 0])), (q7, .inl (e7, 8, .inl (fun _ => 0))), (q15, .inl (e15, 60, .inl (fun _ => 0))), (q23, .inl (e23, 60, .inl (fun _ => 0))), (q31, .inl (e31, 60, .inl (fun _ => 0))), (q39, .inl (e39, 60, .inl (fun _ => 0)))]) := hD
  refine zputF (ci := 11) (fs := [.ref q7, .int 0, .ref q15, .ref q23, .ref q31, .null, .null, .long 0, .int 0, .int 0, .int 0, .null, .int 0]) (ty := .array .int) (v := .ref q39) (ws2 := ws ++ [(aM, .inr (11, [.ref q7, .int 0, .ref q15, .ref q23, .ref q31, .ref q39, .null, .long 0, .int 0, .int 0, .int 0, .null, .int 0])), (q7, .inl (e7, 8, .inl (fun _ => 0))), (q15, .inl (e15, 60, .inl (fun _ => 0))), (q23, .inl (e23, 60, .inl (fun _ => 0))), (q31, .inl (e31, 60, .inl (fun _ => 0))), (q39, .inl (e39, 60, .inl (fun _ => 0)))]) E hnm hK hP hD hS ws.length zpA zC_M t_M o_M n_M 5 (by decide) kw_595 rfl rfl rfl rfl rfl rfl (Nat.le_of_ble_eq_true rfl) d_M_init_41 zpS (fun H locs hP hD hS => ?_)
  have hP : va_P (dC, dI) classes (ws ++ [(aM, .inr (11, [.ref q7, .int 0, .ref q15, .ref q23, .ref q31, .ref q39, .null, .long 0, .int 0, .int 0, .int 0, .null, .int 0])), (q7, .inl (e7, 8, .inl (fun _ => 0))), (q15, .inl (e15, 60, .inl (fun _ => 0))), (q23, .inl (e23, 60, .inl (fun _ => 0))), (q31, .inl (e31, 60, .inl (fun _ => 0))), (q39, .inl (e39, 60, .inl (fun _ => 0)))]) H := hP
  have hD : va_D A (ws ++ [(aM, .inr (11, [.ref q7, .int 0, .ref q15, .ref q23, .ref q31, .ref q39, .null, .long 0, .int 0, .int 0, .int 0, .null, .int 0])), (q7, .inl (e7, 8, .inl (fun _ => 0))), (q15, .inl (e15, 60, .inl (fun _ => 0))), (q23, .inl (e23, 60, .inl (fun _ => 0))), (q31, .inl (e31, 60, .inl (fun _ => 0))), (q39, .inl (e39, 60, .inl (fun _ => 0)))]) := hD
  refine lv_aload_n hx hb d_M_init_44 rfl (lv_at hl 0 rfl) ?_
  refine lv_bipush (v := 60) hx hb d_M_init_45 (by decide) ?_
  refine va_newa (atype := .boolean) (ty := .boolean) (a0 := (60, .inl (fun _ => 0))) (N' := 60) hx hb (hts _ kw_630) rfl hK hP hD hS hA (fun _ => rfl) (by decide) (by decide) (by decide) (Nat.le_of_ble_eq_true rfl) (Nat.le_of_ble_eq_true rfl) d_M_init_47 (fun q47 e47 H hK hP hD hS => ?_)
  rw [List.append_assoc] at hP hD
  have hK : va_K (dC, dI) classes [(e7, .int), (e15, .int), (e23, .int), (e31, .int), (e39, .int), (e47, .boolean)] s := hK
  have hP : va_P (dC, dI) classes (ws ++ [(aM, .inr (11, [.ref q7, .int 0, .ref q15, .ref q23, .ref q31, .ref q39, .null, .long 0, .int 0, .int 0, .int 0, .null, .int 0])), (q7, .inl (e7, 8, .inl (fun _ => 0))), (q15, .inl (e15, 60, .inl (fun _ => 0))), (q23, .inl (e23, 60, .inl (fun _ => 0))), (q31, .inl (e31, 60, .inl (fun _ => 0))), (q39, .inl (e39, 60, .inl (fun _ => 0))), (q47, .inl (e47, 60, .inl (fun _ => 0)))]) H := hP
  have hD : va_D A (ws ++ [(aM, .inr (11, [.ref q7, .int 0, .ref q15, .ref q23, .ref q31, .ref q39, .null, .long 0, .int 0, .int 0, .int 0, .null, .int 0])), (q7, .inl (e7, 8, .inl (fun _ => 0))), (q15, .inl (e15, 60, .inl (fun _ => 0))), (q23, .inl (e23, 60, .inl (fun _ => 0))), (q31, .inl (e31, 60, .inl (fun _ => 0))), (q39, .inl (e39, 60, .inl (fun _ => 0))), (q47, .inl (e47, 60, .inl (fun _ => 0)))]) := hD
  refine zputF (ci := 11) (fs := [.ref q7, .int 0, .ref q15, .ref q23, .ref q31, .ref q39, .null, .long 0, .int 0, .int 0, .int 0, .null, .int 0]) (ty := .array .boolean) (v := .ref q47) (ws2 := ws ++ [(aM, .inr (11, [.ref q7, .int 0, .ref q15, .ref q23, .ref q31, .ref q39, .ref q47, .long 0, .int 0, .int 0, .int 0, .null, .int 0])), (q7, .inl (e7, 8, .inl (fun _ => 0))), (q15, .inl (e15, 60, .inl (fun _ => 0))), (q23, .inl (e23, 60, .inl (fun _ => 0))), (q31, .inl (e31, 60, .inl (fun _ => 0))), (q39, .inl (e39, 60, .inl (fun _ => 0))), (q47, .inl (e47, 60, .inl (fun _ => 0)))]) E hnm hK hP hD hS ws.length zpA zC_M t_M o_M n_M 6 (by decide) kw_596 rfl rfl rfl rfl rfl rfl (Nat.le_of_ble_eq_true rfl) d_M_init_49 zpS (fun H locs hP hD hS => ?_)
  have hP : va_P (dC, dI) classes (ws ++ [(aM, .inr (11, [.ref q7, .int 0, .ref q15, .ref q23, .ref q31, .ref q39, .ref q47, .long 0, .int 0, .int 0, .int 0, .null, .int 0])), (q7, .inl (e7, 8, .inl (fun _ => 0))), (q15, .inl (e15, 60, .inl (fun _ => 0))), (q23, .inl (e23, 60, .inl (fun _ => 0))), (q31, .inl (e31, 60, .inl (fun _ => 0))), (q39, .inl (e39, 60, .inl (fun _ => 0))), (q47, .inl (e47, 60, .inl (fun _ => 0)))]) H := hP
  have hD : va_D A (ws ++ [(aM, .inr (11, [.ref q7, .int 0, .ref q15, .ref q23, .ref q31, .ref q39, .ref q47, .long 0, .int 0, .int 0, .int 0, .null, .int 0])), (q7, .inl (e7, 8, .inl (fun _ => 0))), (q15, .inl (e15, 60, .inl (fun _ => 0))), (q23, .inl (e23, 60, .inl (fun _ => 0))), (q31, .inl (e31, 60, .inl (fun _ => 0))), (q39, .inl (e39, 60, .inl (fun _ => 0))), (q47, .inl (e47, 60, .inl (fun _ => 0)))]) := hD
  refine lv_aload_n hx hb d_M_init_52 rfl (lv_at hl 0 rfl) ?_
  refine lv_sipush (v := 1000) hx hb d_M_init_53 (by decide) ?_
  refine va_newa (atype := .int) (ty := .int) (a0 := (1000, .inl (fun _ => 0))) (N' := 1000) hx hb (hts _ kw_40) rfl hK hP hD hS hA (fun _ => rfl) (by decide) (by decide) (by decide) (Nat.le_of_ble_eq_true rfl) (Nat.le_of_ble_eq_true rfl) d_M_init_56 (fun q56 e56 H hK hP hD hS => ?_)
  rw [List.append_assoc] at hP hD
  have hK : va_K (dC, dI) classes [(e7, .int), (e15, .int), (e23, .int), (e31, .int), (e39, .int), (e47, .boolean), (e56, .int)] s := hK
  have hP : va_P (dC, dI) classes (ws ++ [(aM, .inr (11, [.ref q7, .int 0, .ref q15, .ref q23, .ref q31, .ref q39, .ref q47, .long 0, .int 0, .int 0, .int 0, .null, .int 0])), (q7, .inl (e7, 8, .inl (fun _ => 0))), (q15, .inl (e15, 60, .inl (fun _ => 0))), (q23, .inl (e23, 60, .inl (fun _ => 0))), (q31, .inl (e31, 60, .inl (fun _ => 0))), (q39, .inl (e39, 60, .inl (fun _ => 0))), (q47, .inl (e47, 60, .inl (fun _ => 0))), (q56, .inl (e56, 1000, .inl (fun _ => 0)))]) H := hP
  have hD : va_D A (ws ++ [(aM, .inr (11, [.ref q7, .int 0, .ref q15, .ref q23, .ref q31, .ref q39, .ref q47, .long 0, .int 0, .int 0, .int 0, .null, .int 0])), (q7, .inl (e7, 8, .inl (fun _ => 0))), (q15, .inl (e15, 60, .inl (fun _ => 0))), (q23, .inl (e23, 60, .inl (fun _ => 0))), (q31, .inl (e31, 60, .inl (fun _ => 0))), (q39, .inl (e39, 60, .inl (fun _ => 0))), (q47, .inl (e47, 60, .inl (fun _ => 0))), (q56, .inl (e56, 1000, .inl (fun _ => 0)))]) := hD
  refine zputF (ci := 11) (fs := [.ref q7, .int 0, .ref q15, .ref q23, .ref q31, .ref q39, .ref q47, .long 0, .int 0, .int 0, .int 0, .null, .int 0]) (ty := .array .int) (v := .ref q56) (ws2 := ws ++ [(aM, .inr (11, [.ref q7, .int 0, .ref q15, .ref q23, .ref q31, .ref q39, .ref q47, .long 0, .int 0, .int 0, .int 0, .ref q56, .int 0])), (q7, .inl (e7, 8, .inl (fun _ => 0))), (q15, .inl (e15, 60, .inl (fun _ => 0))), (q23, .inl (e23, 60, .inl (fun _ => 0))), (q31, .inl (e31, 60, .inl (fun _ => 0))), (q39, .inl (e39, 60, .inl (fun _ => 0))), (q47, .inl (e47, 60, .inl (fun _ => 0))), (q56, .inl (e56, 1000, .inl (fun _ => 0)))]) E hnm hK hP hD hS ws.length zpA zC_M t_M o_M n_M 11 (by decide) kw_601 rfl rfl rfl rfl rfl rfl (Nat.le_of_ble_eq_true rfl) d_M_init_58 zpS (fun H locs hP hD hS => ?_)
  have hP : va_P (dC, dI) classes (ws ++ [(aM, .inr (11, [.ref q7, .int 0, .ref q15, .ref q23, .ref q31, .ref q39, .ref q47, .long 0, .int 0, .int 0, .int 0, .ref q56, .int 0])), (q7, .inl (e7, 8, .inl (fun _ => 0))), (q15, .inl (e15, 60, .inl (fun _ => 0))), (q23, .inl (e23, 60, .inl (fun _ => 0))), (q31, .inl (e31, 60, .inl (fun _ => 0))), (q39, .inl (e39, 60, .inl (fun _ => 0))), (q47, .inl (e47, 60, .inl (fun _ => 0))), (q56, .inl (e56, 1000, .inl (fun _ => 0)))]) H := hP
  have hD : va_D A (ws ++ [(aM, .inr (11, [.ref q7, .int 0, .ref q15, .ref q23, .ref q31, .ref q39, .ref q47, .long 0, .int 0, .int 0, .int 0, .ref q56, .int 0])), (q7, .inl (e7, 8, .inl (fun _ => 0))), (q15, .inl (e15, 60, .inl (fun _ => 0))), (q23, .inl (e23, 60, .inl (fun _ => 0))), (q31, .inl (e31, 60, .inl (fun _ => 0))), (q39, .inl (e39, 60, .inl (fun _ => 0))), (q47, .inl (e47, 60, .inl (fun _ => 0))), (q56, .inl (e56, 1000, .inl (fun _ => 0)))]) := hD
  exact zrvA E hS (fun t ht hW => ⟨rfl, e7, e15, e23, e31, e39, e47, e56, q7, q15, q23, q31, q39, q47, q56, ⟨by rw [ht]; exact hP, va_K.moved hW.alike hK, hD⟩⟩) d_M_init_61
