theorem arr0 : (fun i => if i < 0 then some ((fun _ => 0 : Nat → Nat) i) else none) = (fun _ => none : Nat → Option Nat) := by
  funext i; simp
set_option maxHeartbeats 1000000 in
set_option maxRecDepth 100000 in
theorem c_X_init (l : Launch) (dC : Nat → ClassId) (dI : Nat → Nat → Nat) (A : Nat → Prop) (aX : Nat) : zMa l y_X_init b_X_init 1 none 2 40 4 1071 [.ref aX] (dC, dI) [] A ([(aX, .inr (10, [.null, .null, .int 0, .int 0, .int 0, .int 0, .long 0]))]) (fun rv t => rv = none ∧ ∃ (aC aD aE aA : Nat) (c1 c2 c3 : ClassId), zW (dC, dI) (t3 c1 c2 c3) A (xW c1 c2 c3 aX aC aD aE aA (fun _ => 0) zA0) t) := by
  refine zMa_of "CoastLamps" rfl (by decide) (Nat.le_of_ble_eq_true rfl) ?_
  intro p e s m below meth c ls E hnm hB hA hP hK hD hS hl
  obtain ⟨hx, hb, hml, ho, hts, hr, hlk⟩ := id E
  have hl : lv_has ls 1 [(0, .ref aX)] := hl
  refine lv_aload_n hx hb d_X_init_0 rfl (lv_at hl 0 rfl) ?_
  refine zobj E hl.1 kw_20 kw_21 kw_22 d_X_init_1 (Nat.le_of_ble_eq_true rfl) (Nat.le_of_ble_eq_true rfl) ?_
  refine lv_aload_n hx hb d_X_init_4 rfl (lv_at hl 0 rfl) ?_
  refine va_new (ci := 9) (fs := [.null, .null, .int 0]) (C := R_Coast) (T := F_Coast) (N := 3) hx hb hts i_Coast t_Coast o_Coast ho (hts _ kw_23) (hts _ kw_24) (hts _ kw_2) hK hP hD hS hA rfl (fun j hj => by rcases (show j = 0 ∨ j = 1 ∨ j = 2 by omega) with rfl | rfl | rfl <;> rfl) (Nat.le_of_ble_eq_true rfl) (Nat.le_of_ble_eq_true rfl) d_X_init_5 (fun aC H hP hD hS => ?_)
  refine lv_dup hx hb d_X_init_8 rfl ?_
  refine zcIA (As := []) (rest := [.ref aC, .ref aX]) E hB cy_Coast_init kw_26 rfl kw_25 (c_Coast_init l dC dI A aC [(aX, .inr (10, [.null, .null, .int 0, .int 0, .int 0, .int 0, .long 0]))]) hK hP hD hS (fun q h => hA q (Nat.le_trans hS.1 h)) (fun _ h => h) rfl hl.1 rfl (Nat.le_of_ble_eq_true rfl) ⟨Nat.le_of_ble_eq_true rfl, Nat.le_of_ble_eq_true rfl⟩ d_X_init_9 ⟨Nat.le_of_ble_eq_true rfl, Nat.le_of_ble_eq_true rfl⟩ (fun rv t H locs ht hvm hp hz hk9 hS => ?_)
  obtain ⟨rfl, aD, aE, c1, c2, hP1, hK1, hD⟩ := hp
  rw [ht] at hP1
  have hP : va_P (dC, dI) classes [(aX, .inr (10, [.null, .null, .int 0, .int 0, .int 0, .int 0, .long 0])), (aC, .inr (9, [.ref aD, .ref aE, .int 0])), (aD, .inl (c1, 8, .inl (fun _ => 0))), (aE, .inl (c2, 1000, .inl (fun _ => 0)))] H := hP1
  have hD : va_D A [(aX, .inr (10, [.null, .null, .int 0, .int 0, .int 0, .int 0, .long 0])), (aC, .inr (9, [.ref aD, .ref aE, .int 0])), (aD, .inl (c1, 8, .inl (fun _ => 0))), (aE, .inl (c2, 1000, .inl (fun _ => 0)))] := hD
  have hK := va_K.moved hvm.symm hK1
  refine zputF (ci := 10) (fs := [.null, .null, .int 0, .int 0, .int 0, .int 0, .long 0]) (ty := .object "CoastLamps$Coast") (v := .ref aC) (ws2 := [(aX, .inr (10, [.ref aC, .null, .int 0, .int 0, .int 0, .int 0, .long 0])), (aC, .inr (9, [.ref aD, .ref aE, .int 0])), (aD, .inl (c1, 8, .inl (fun _ => 0))), (aE, .inl (c2, 1000, .inl (fun _ => 0)))]) E hnm hK hP hD hS 0 rfl zC_X t_X o_X n_X 0 (by decide) kw_43 rfl rfl rfl rfl rfl rfl (Nat.le_of_ble_eq_true rfl) d_X_init_12 rfl (fun H locs hP hD hS => ?_)
  refine lv_aload_n hx hb d_X_init_15 rfl (lv_at hl 0 rfl) ?_
  refine lv_bipush (v := 60) hx hb d_X_init_16 (by decide) ?_
  refine va_newq (N' := 60) hx hb ho (hts _ kw_41) hB.1 hK hP hD hS hA (by decide) (by decide) (by decide) (Nat.le_of_ble_eq_true rfl) (Nat.le_of_ble_eq_true rfl) d_X_init_18 (fun aA c3 H hK hP hD hS => ?_)
  refine zputF (ci := 10) (fs := [.ref aC, .null, .int 0, .int 0, .int 0, .int 0, .long 0]) (ty := .array (.object "CoastLamps$Lamp")) (v := .ref aA) (ws2 := [(aX, .inr (10, [.ref aC, .ref aA, .int 0, .int 0, .int 0, .int 0, .long 0])), (aC, .inr (9, [.ref aD, .ref aE, .int 0])), (aD, .inl (c1, 8, .inl (fun _ => 0))), (aE, .inl (c2, 1000, .inl (fun _ => 0))), (aA, .inl (c3, 60, .inr (.inr (.inr (.inr (fun _ => none))))))]) E hnm hK hP hD hS 0 rfl zC_X t_X o_X n_X 1 (by decide) kw_44 rfl rfl rfl rfl rfl rfl (Nat.le_of_ble_eq_true rfl) d_X_init_21 rfl (fun H locs hP hD hS => ?_)
  have hP9 := hP.sub (ws' := [(aC, .inr (9, [.ref aD, .ref aE, .int 0])), (aD, .inl (c1, 8, .inl (fun _ => 0))), (aE, .inl (c2, 1000, .inl (fun _ => 0))), (aX, .inr (10, [.ref aC, .ref aA, .int 0, .int 0, .int 0, .int 0, .long 0])), (aA, .inl (c3, 60, .inr (.inr (.inr (.inr (fun _ => none))))))]) [1, 2, 3, 0, 4] rfl
  have hD9 := hD.sub (ws' := [(aC, .inr (9, [.ref aD, .ref aE, .int 0])), (aD, .inl (c1, 8, .inl (fun _ => 0))), (aE, .inl (c2, 1000, .inl (fun _ => 0))), (aX, .inr (10, [.ref aC, .ref aA, .int 0, .int 0, .int 0, .int 0, .long 0])), (aA, .inl (c3, 60, .inr (.inr (.inr (.inr (fun _ => none))))))]) [1, 2, 3, 0, 4] (by decide) rfl
  rw [← arr0] at hP9 hD9
  exact zrvA E hS (fun t ht hW => ⟨rfl, aC, aD, aE, aA, c1, c2, c3, ⟨by rw [ht]; exact hP9, va_K.moved hW.alike hK, hD9⟩⟩) d_X_init_24
set_option maxHeartbeats 1000000 in
set_option maxRecDepth 100000 in
theorem c_X_made (l : Launch) (dC : Nat → ClassId) (dI : Nat → Nat → Nat) (c1 c2 c3 : ClassId) (A : Nat → Prop) (aX aC aD aE aA : Nat) (ad : Nat → Nat) (d : Nat → Int32) (n : Nat) (kk : Nat → Nat) (ht tk so lt : Nat → Int32) (sto : Int64) (ni ac bl : Int32) (t : zT) (k : Nat) (hk : k < 9) (y : Int32) : zMa l y_X_made b_X_made 3 (some (FieldType.object "CoastLamps$Lamp")) 7 158 1 6 [.ref aX, .int (nI (k + 1)), .int y] (dC, dI) (t3 c1 c2 c3) A (wx c1 c2 c3 aX aC aD aE aA ad d n kk ht tk so lt sto ni ac bl t) (fun rv t9 => ∃ q : Nat, rv = some (.ref q) ∧ zW (dC, dI) (t3 c1 c2 c3) A (wx c1 c2 c3 aX aC aD aE aA ad d n kk ht tk so lt sto ni ac bl t ++ [wL aC q k (nI (k + 1)) y 0 0 0]) t9) := by
  rcases (show k = 0 ∨ k = 1 ∨ k = 2 ∨ k = 3 ∨ k = 4 ∨ k = 5 ∨ k = 6 ∨ k = 7 ∨ k = 8 by omega) with rfl | rfl | rfl | rfl | rfl | rfl | rfl | rfl | rfl
  · refine zMa_of "CoastLamps" rfl (by decide) (Nat.le_of_ble_eq_true rfl) ?_
    intro p e s m below meth c ls E hnm hB hA hP hK hD hS hl
    obtain ⟨hx, hb, hml, ho, hts, hr, hlk⟩ := id E
    have hl : lv_has ls 3 [(0, .ref aX), (1, .int (nI (0 + 1))), (2, .int y)] := hl
    refine lv_iload_n hx hb d_X_made_0 rfl (lv_at hl 1 rfl) ?_
    refine lv_tableIn (off := 47) (tgt := 48) hx hb d_X_made_1 (by decide) (by decide) (by decide) (by decide) ?_
    refine va_new (ci := 0) (fs := [.null, .int 0, .int 0, .int 0, .int 0, .int 0]) (C := R_Oil) (T := F_Lamp) (N := 6) hx hb hts i_Oil t_Lamp o_Lamp ho (hts _ kw_88) (hts _ kw_89) (hts _ kw_5) hK hP hD hS hA rfl (fun j hj => by rcases (show j = 0 ∨ j = 1 ∨ j = 2 ∨ j = 3 ∨ j = 4 ∨ j = 5 by omega) with rfl | rfl | rfl | rfl | rfl | rfl <;> rfl) (Nat.le_of_ble_eq_true rfl) (Nat.le_of_ble_eq_true rfl) d_X_made_48 (fun q9 H hP hD hS => ?_)
    refine lv_dup hx hb d_X_made_51 rfl ?_
    refine lv_aload_n hx hb d_X_made_52 rfl (lv_at hl 0 rfl) ?_
    refine zget (ci := 10) (fs := [.ref aC, .ref aA, .int (nI n), .int ni, .int ac, .int bl, .long sto]) E hK hP 3 rfl zC_X 0 (by decide) kw_43 (Or.inl rfl) rfl d_X_made_53 ?_
    refine lv_iload_n hx hb d_X_made_56 rfl (lv_at hl 1 rfl) ?_
    refine lv_iload_n hx hb d_X_made_57 rfl (lv_at hl 2 rfl) ?_
    refine zcI (As := [.ref aC, .int (nI (0 + 1)), .int y]) (rest := [.ref q9]) E cy_Oil_init kw_91 rfl kw_90 (c_Oil_init l dC dI (t3 c1 c2 c3) A q9 0 (by decide) aC (nI (0 + 1)) y (wx c1 c2 c3 aX aC aD aE aA ad d n kk ht tk so lt sto ni ac bl t)) hK hP hD hS rfl hl.1 rfl (Nat.le_of_ble_eq_true rfl) ⟨Nat.le_of_ble_eq_true rfl, Nat.le_of_ble_eq_true rfl⟩ d_X_made_58 ⟨Nat.le_of_ble_eq_true rfl, Nat.le_of_ble_eq_true rfl⟩ (fun H locs hP hD hS => ?_)
    exact zraA E hS (fun t ht hW => ⟨q9, rfl, ⟨by rw [ht]; exact hP, va_K.moved hW.alike hK, hD⟩⟩) d_X_made_61
  · refine zMa_of "CoastLamps" rfl (by decide) (Nat.le_of_ble_eq_true rfl) ?_
    intro p e s m below meth c ls E hnm hB hA hP hK hD hS hl
    obtain ⟨hx, hb, hml, ho, hts, hr, hlk⟩ := id E
    have hl : lv_has ls 3 [(0, .ref aX), (1, .int (nI (1 + 1))), (2, .int y)] := hl
    refine lv_iload_n hx hb d_X_made_0 rfl (lv_at hl 1 rfl) ?_
    refine lv_tableIn (off := 61) (tgt := 62) hx hb d_X_made_1 (by decide) (by decide) (by decide) (by decide) ?_
    refine va_new (ci := 1) (fs := [.null, .int 0, .int 0, .int 0, .int 0, .int 0]) (C := R_Round) (T := F_Lamp) (N := 6) hx hb hts i_Round t_Lamp o_Lamp ho (hts _ kw_147) (hts _ kw_148) (hts _ kw_6) hK hP hD hS hA rfl (fun j hj => by rcases (show j = 0 ∨ j = 1 ∨ j = 2 ∨ j = 3 ∨ j = 4 ∨ j = 5 by omega) with rfl | rfl | rfl | rfl | rfl | rfl <;> rfl) (Nat.le_of_ble_eq_true rfl) (Nat.le_of_ble_eq_true rfl) d_X_made_62 (fun q9 H hP hD hS => ?_)
    refine lv_dup hx hb d_X_made_65 rfl ?_
    refine lv_aload_n hx hb d_X_made_66 rfl (lv_at hl 0 rfl) ?_
    refine zget (ci := 10) (fs := [.ref aC, .ref aA, .int (nI n), .int ni, .int ac, .int bl, .long sto]) E hK hP 3 rfl zC_X 0 (by decide) kw_43 (Or.inl rfl) rfl d_X_made_67 ?_
    refine lv_iload_n hx hb d_X_made_70 rfl (lv_at hl 1 rfl) ?_
    refine lv_iload_n hx hb d_X_made_71 rfl (lv_at hl 2 rfl) ?_
    refine zcI (As := [.ref aC, .int (nI (1 + 1)), .int y]) (rest := [.ref q9]) E cy_Round_init kw_150 rfl kw_149 (c_Round_init l dC dI (t3 c1 c2 c3) A q9 1 (by decide) aC (nI (1 + 1)) y (wx c1 c2 c3 aX aC aD aE aA ad d n kk ht tk so lt sto ni ac bl t)) hK hP hD hS rfl hl.1 rfl (Nat.le_of_ble_eq_true rfl) ⟨Nat.le_of_ble_eq_true rfl, Nat.le_of_ble_eq_true rfl⟩ d_X_made_72 ⟨Nat.le_of_ble_eq_true rfl, Nat.le_of_ble_eq_true rfl⟩ (fun H locs hP hD hS => ?_)
    exact zraA E hS (fun t ht hW => ⟨q9, rfl, ⟨by rw [ht]; exact hP, va_K.moved hW.alike hK, hD⟩⟩) d_X_made_75
  · refine zMa_of "CoastLamps" rfl (by decide) (Nat.le_of_ble_eq_true rfl) ?_
    intro p e s m below meth c ls E hnm hB hA hP hK hD hS hl
    obtain ⟨hx, hb, hml, ho, hts, hr, hlk⟩ := id E
    have hl : lv_has ls 3 [(0, .ref aX), (1, .int (nI (2 + 1))), (2, .int y)] := hl
    refine lv_iload_n hx hb d_X_made_0 rfl (lv_at hl 1 rfl) ?_
    refine lv_tableIn (off := 75) (tgt := 76) hx hb d_X_made_1 (by decide) (by decide) (by decide) (by decide) ?_
    refine va_new (ci := 2) (fs := [.null, .int 0, .int 0, .int 0, .int 0, .int 0]) (C := R_Twin) (T := F_Lamp) (N := 6) hx hb hts i_Twin t_Lamp o_Lamp ho (hts _ kw_160) (hts _ kw_161) (hts _ kw_7) hK hP hD hS hA rfl (fun j hj => by rcases (show j = 0 ∨ j = 1 ∨ j = 2 ∨ j = 3 ∨ j = 4 ∨ j = 5 by omega) with rfl | rfl | rfl | rfl | rfl | rfl <;> rfl) (Nat.le_of_ble_eq_true rfl) (Nat.le_of_ble_eq_true rfl) d_X_made_76 (fun q9 H hP hD hS => ?_)
    refine lv_dup hx hb d_X_made_79 rfl ?_
    refine lv_aload_n hx hb d_X_made_80 rfl (lv_at hl 0 rfl) ?_
    refine zget (ci := 10) (fs := [.ref aC, .ref aA, .int (nI n), .int ni, .int ac, .int bl, .long sto]) E hK hP 3 rfl zC_X 0 (by decide) kw_43 (Or.inl rfl) rfl d_X_made_81 ?_
    refine lv_iload_n hx hb d_X_made_84 rfl (lv_at hl 1 rfl) ?_
    refine lv_iload_n hx hb d_X_made_85 rfl (lv_at hl 2 rfl) ?_
    refine zcI (As := [.ref aC, .int (nI (2 + 1)), .int y]) (rest := [.ref q9]) E cy_Twin_init kw_163 rfl kw_162 (c_Twin_init l dC dI (t3 c1 c2 c3) A q9 2 (by decide) aC (nI (2 + 1)) y (wx c1 c2 c3 aX aC aD aE aA ad d n kk ht tk so lt sto ni ac bl t)) hK hP hD hS rfl hl.1 rfl (Nat.le_of_ble_eq_true rfl) ⟨Nat.le_of_ble_eq_true rfl, Nat.le_of_ble_eq_true rfl⟩ d_X_made_86 ⟨Nat.le_of_ble_eq_true rfl, Nat.le_of_ble_eq_true rfl⟩ (fun H locs hP hD hS => ?_)
    exact zraA E hS (fun t ht hW => ⟨q9, rfl, ⟨by rw [ht]; exact hP, va_K.moved hW.alike hK, hD⟩⟩) d_X_made_89
  · refine zMa_of "CoastLamps" rfl (by decide) (Nat.le_of_ble_eq_true rfl) ?_
    intro p e s m below meth c ls E hnm hB hA hP hK hD hS hl
    obtain ⟨hx, hb, hml, ho, hts, hr, hlk⟩ := id E
    have hl : lv_has ls 3 [(0, .ref aX), (1, .int (nI (3 + 1))), (2, .int y)] := hl
    refine lv_iload_n hx hb d_X_made_0 rfl (lv_at hl 1 rfl) ?_
    refine lv_tableIn (off := 89) (tgt := 90) hx hb d_X_made_1 (by decide) (by decide) (by decide) (by decide) ?_
    refine va_new (ci := 3) (fs := [.null, .int 0, .int 0, .int 0, .int 0, .int 0]) (C := R_Drum) (T := F_Lamp) (N := 6) hx hb hts i_Drum t_Lamp o_Lamp ho (hts _ kw_173) (hts _ kw_174) (hts _ kw_8) hK hP hD hS hA rfl (fun j hj => by rcases (show j = 0 ∨ j = 1 ∨ j = 2 ∨ j = 3 ∨ j = 4 ∨ j = 5 by omega) with rfl | rfl | rfl | rfl | rfl | rfl <;> rfl) (Nat.le_of_ble_eq_true rfl) (Nat.le_of_ble_eq_true rfl) d_X_made_90 (fun q9 H hP hD hS => ?_)
    refine lv_dup hx hb d_X_made_93 rfl ?_
    refine lv_aload_n hx hb d_X_made_94 rfl (lv_at hl 0 rfl) ?_
    refine zget (ci := 10) (fs := [.ref aC, .ref aA, .int (nI n), .int ni, .int ac, .int bl, .long sto]) E hK hP 3 rfl zC_X 0 (by decide) kw_43 (Or.inl rfl) rfl d_X_made_95 ?_
    refine lv_iload_n hx hb d_X_made_98 rfl (lv_at hl 1 rfl) ?_
    refine lv_iload_n hx hb d_X_made_99 rfl (lv_at hl 2 rfl) ?_
    refine zcI (As := [.ref aC, .int (nI (3 + 1)), .int y]) (rest := [.ref q9]) E cy_Drum_init kw_176 rfl kw_175 (c_Drum_init l dC dI (t3 c1 c2 c3) A q9 3 (by decide) aC (nI (3 + 1)) y (wx c1 c2 c3 aX aC aD aE aA ad d n kk ht tk so lt sto ni ac bl t)) hK hP hD hS rfl hl.1 rfl (Nat.le_of_ble_eq_true rfl) ⟨Nat.le_of_ble_eq_true rfl, Nat.le_of_ble_eq_true rfl⟩ d_X_made_100 ⟨Nat.le_of_ble_eq_true rfl, Nat.le_of_ble_eq_true rfl⟩ (fun H locs hP hD hS => ?_)
    exact zraA E hS (fun t ht hW => ⟨q9, rfl, ⟨by rw [ht]; exact hP, va_K.moved hW.alike hK, hD⟩⟩) d_X_made_103
  · refine zMa_of "CoastLamps" rfl (by decide) (Nat.le_of_ble_eq_true rfl) ?_
    intro p e s m below meth c ls E hnm hB hA hP hK hD hS hl
    obtain ⟨hx, hb, hml, ho, hts, hr, hlk⟩ := id E
    have hl : lv_has ls 3 [(0, .ref aX), (1, .int (nI (4 + 1))), (2, .int y)] := hl
    refine lv_iload_n hx hb d_X_made_0 rfl (lv_at hl 1 rfl) ?_
    refine lv_tableIn (off := 103) (tgt := 104) hx hb d_X_made_1 (by decide) (by decide) (by decide) (by decide) ?_
    refine va_new (ci := 4) (fs := [.null, .int 0, .int 0, .int 0, .int 0, .int 0]) (C := R_Swing) (T := F_Lamp) (N := 6) hx hb hts i_Swing t_Lamp o_Lamp ho (hts _ kw_186) (hts _ kw_187) (hts _ kw_9) hK hP hD hS hA rfl (fun j hj => by rcases (show j = 0 ∨ j = 1 ∨ j = 2 ∨ j = 3 ∨ j = 4 ∨ j = 5 by omega) with rfl | rfl | rfl | rfl | rfl | rfl <;> rfl) (Nat.le_of_ble_eq_true rfl) (Nat.le_of_ble_eq_true rfl) d_X_made_104 (fun q9 H hP hD hS => ?_)
    refine lv_dup hx hb d_X_made_107 rfl ?_
    refine lv_aload_n hx hb d_X_made_108 rfl (lv_at hl 0 rfl) ?_
    refine zget (ci := 10) (fs := [.ref aC, .ref aA, .int (nI n), .int ni, .int ac, .int bl, .long sto]) E hK hP 3 rfl zC_X 0 (by decide) kw_43 (Or.inl rfl) rfl d_X_made_109 ?_
    refine lv_iload_n hx hb d_X_made_112 rfl (lv_at hl 1 rfl) ?_
    refine lv_iload_n hx hb d_X_made_113 rfl (lv_at hl 2 rfl) ?_
    refine zcI (As := [.ref aC, .int (nI (4 + 1)), .int y]) (rest := [.ref q9]) E cy_Swing_init kw_189 rfl kw_188 (c_Swing_init l dC dI (t3 c1 c2 c3) A q9 4 (by decide) aC (nI (4 + 1)) y (wx c1 c2 c3 aX aC aD aE aA ad d n kk ht tk so lt sto ni ac bl t)) hK hP hD hS rfl hl.1 rfl (Nat.le_of_ble_eq_true rfl) ⟨Nat.le_of_ble_eq_true rfl, Nat.le_of_ble_eq_true rfl⟩ d_X_made_114 ⟨Nat.le_of_ble_eq_true rfl, Nat.le_of_ble_eq_true rfl⟩ (fun H locs hP hD hS => ?_)
    exact zraA E hS (fun t ht hW => ⟨q9, rfl, ⟨by rw [ht]; exact hP, va_K.moved hW.alike hK, hD⟩⟩) d_X_made_117
  · refine zMa_of "CoastLamps" rfl (by decide) (Nat.le_of_ble_eq_true rfl) ?_
    intro p e s m below meth c ls E hnm hB hA hP hK hD hS hl
    obtain ⟨hx, hb, hml, ho, hts, hr, hlk⟩ := id E
    have hl : lv_has ls 3 [(0, .ref aX), (1, .int (nI (5 + 1))), (2, .int y)] := hl
    refine lv_iload_n hx hb d_X_made_0 rfl (lv_at hl 1 rfl) ?_
    refine lv_tableIn (off := 117) (tgt := 118) hx hb d_X_made_1 (by decide) (by decide) (by decide) (by decide) ?_
    refine va_new (ci := 5) (fs := [.null, .int 0, .int 0, .int 0, .int 0, .int 0]) (C := R_Gas) (T := F_Lamp) (N := 6) hx hb hts i_Gas t_Lamp o_Lamp ho (hts _ kw_199) (hts _ kw_200) (hts _ kw_10) hK hP hD hS hA rfl (fun j hj => by rcases (show j = 0 ∨ j = 1 ∨ j = 2 ∨ j = 3 ∨ j = 4 ∨ j = 5 by omega) with rfl | rfl | rfl | rfl | rfl | rfl <;> rfl) (Nat.le_of_ble_eq_true rfl) (Nat.le_of_ble_eq_true rfl) d_X_made_118 (fun q9 H hP hD hS => ?_)
    refine lv_dup hx hb d_X_made_121 rfl ?_
    refine lv_aload_n hx hb d_X_made_122 rfl (lv_at hl 0 rfl) ?_
    refine zget (ci := 10) (fs := [.ref aC, .ref aA, .int (nI n), .int ni, .int ac, .int bl, .long sto]) E hK hP 3 rfl zC_X 0 (by decide) kw_43 (Or.inl rfl) rfl d_X_made_123 ?_
    refine lv_iload_n hx hb d_X_made_126 rfl (lv_at hl 1 rfl) ?_
    refine lv_iload_n hx hb d_X_made_127 rfl (lv_at hl 2 rfl) ?_
    refine zcI (As := [.ref aC, .int (nI (5 + 1)), .int y]) (rest := [.ref q9]) E cy_Gas_init kw_202 rfl kw_201 (c_Gas_init l dC dI (t3 c1 c2 c3) A q9 5 (by decide) aC (nI (5 + 1)) y (wx c1 c2 c3 aX aC aD aE aA ad d n kk ht tk so lt sto ni ac bl t)) hK hP hD hS rfl hl.1 rfl (Nat.le_of_ble_eq_true rfl) ⟨Nat.le_of_ble_eq_true rfl, Nat.le_of_ble_eq_true rfl⟩ d_X_made_128 ⟨Nat.le_of_ble_eq_true rfl, Nat.le_of_ble_eq_true rfl⟩ (fun H locs hP hD hS => ?_)
    exact zraA E hS (fun t ht hW => ⟨q9, rfl, ⟨by rw [ht]; exact hP, va_K.moved hW.alike hK, hD⟩⟩) d_X_made_131
  · refine zMa_of "CoastLamps" rfl (by decide) (Nat.le_of_ble_eq_true rfl) ?_
    intro p e s m below meth c ls E hnm hB hA hP hK hD hS hl
    obtain ⟨hx, hb, hml, ho, hts, hr, hlk⟩ := id E
    have hl : lv_has ls 3 [(0, .ref aX), (1, .int (nI (6 + 1))), (2, .int y)] := hl
    refine lv_iload_n hx hb d_X_made_0 rfl (lv_at hl 1 rfl) ?_
    refine lv_tableIn (off := 131) (tgt := 132) hx hb d_X_made_1 (by decide) (by decide) (by decide) (by decide) ?_
    refine va_new (ci := 6) (fs := [.null, .int 0, .int 0, .int 0, .int 0, .int 0]) (C := R_Flare) (T := F_Lamp) (N := 6) hx hb hts i_Flare t_Lamp o_Lamp ho (hts _ kw_212) (hts _ kw_213) (hts _ kw_11) hK hP hD hS hA rfl (fun j hj => by rcases (show j = 0 ∨ j = 1 ∨ j = 2 ∨ j = 3 ∨ j = 4 ∨ j = 5 by omega) with rfl | rfl | rfl | rfl | rfl | rfl <;> rfl) (Nat.le_of_ble_eq_true rfl) (Nat.le_of_ble_eq_true rfl) d_X_made_132 (fun q9 H hP hD hS => ?_)
    refine lv_dup hx hb d_X_made_135 rfl ?_
    refine lv_aload_n hx hb d_X_made_136 rfl (lv_at hl 0 rfl) ?_
    refine zget (ci := 10) (fs := [.ref aC, .ref aA, .int (nI n), .int ni, .int ac, .int bl, .long sto]) E hK hP 3 rfl zC_X 0 (by decide) kw_43 (Or.inl rfl) rfl d_X_made_137 ?_
    refine lv_iload_n hx hb d_X_made_140 rfl (lv_at hl 1 rfl) ?_
    refine lv_iload_n hx hb d_X_made_141 rfl (lv_at hl 2 rfl) ?_
    refine zcI (As := [.ref aC, .int (nI (6 + 1)), .int y]) (rest := [.ref q9]) E cy_Flare_init kw_215 rfl kw_214 (c_Flare_init l dC dI (t3 c1 c2 c3) A q9 6 (by decide) aC (nI (6 + 1)) y (wx c1 c2 c3 aX aC aD aE aA ad d n kk ht tk so lt sto ni ac bl t)) hK hP hD hS rfl hl.1 rfl (Nat.le_of_ble_eq_true rfl) ⟨Nat.le_of_ble_eq_true rfl, Nat.le_of_ble_eq_true rfl⟩ d_X_made_142 ⟨Nat.le_of_ble_eq_true rfl, Nat.le_of_ble_eq_true rfl⟩ (fun H locs hP hD hS => ?_)
    exact zraA E hS (fun t ht hW => ⟨q9, rfl, ⟨by rw [ht]; exact hP, va_K.moved hW.alike hK, hD⟩⟩) d_X_made_145
  · refine zMa_of "CoastLamps" rfl (by decide) (Nat.le_of_ble_eq_true rfl) ?_
    intro p e s m below meth c ls E hnm hB hA hP hK hD hS hl
    obtain ⟨hx, hb, hml, ho, hts, hr, hlk⟩ := id E
    have hl : lv_has ls 3 [(0, .ref aX), (1, .int (nI (7 + 1))), (2, .int y)] := hl
    refine lv_iload_n hx hb d_X_made_0 rfl (lv_at hl 1 rfl) ?_
    refine lv_tableIn (off := 145) (tgt := 146) hx hb d_X_made_1 (by decide) (by decide) (by decide) (by decide) ?_
    refine va_new (ci := 7) (fs := [.null, .int 0, .int 0, .int 0, .int 0, .int 0]) (C := R_Buoy) (T := F_Lamp) (N := 6) hx hb hts i_Buoy t_Lamp o_Lamp ho (hts _ kw_225) (hts _ kw_226) (hts _ kw_12) hK hP hD hS hA rfl (fun j hj => by rcases (show j = 0 ∨ j = 1 ∨ j = 2 ∨ j = 3 ∨ j = 4 ∨ j = 5 by omega) with rfl | rfl | rfl | rfl | rfl | rfl <;> rfl) (Nat.le_of_ble_eq_true rfl) (Nat.le_of_ble_eq_true rfl) d_X_made_146 (fun q9 H hP hD hS => ?_)
    refine lv_dup hx hb d_X_made_149 rfl ?_
    refine lv_aload_n hx hb d_X_made_150 rfl (lv_at hl 0 rfl) ?_
    refine zget (ci := 10) (fs := [.ref aC, .ref aA, .int (nI n), .int ni, .int ac, .int bl, .long sto]) E hK hP 3 rfl zC_X 0 (by decide) kw_43 (Or.inl rfl) rfl d_X_made_151 ?_
    refine lv_iload_n hx hb d_X_made_154 rfl (lv_at hl 1 rfl) ?_
    refine lv_iload_n hx hb d_X_made_155 rfl (lv_at hl 2 rfl) ?_
    refine zcI (As := [.ref aC, .int (nI (7 + 1)), .int y]) (rest := [.ref q9]) E cy_Buoy_init kw_228 rfl kw_227 (c_Buoy_init l dC dI (t3 c1 c2 c3) A q9 7 (by decide) aC (nI (7 + 1)) y (wx c1 c2 c3 aX aC aD aE aA ad d n kk ht tk so lt sto ni ac bl t)) hK hP hD hS rfl hl.1 rfl (Nat.le_of_ble_eq_true rfl) ⟨Nat.le_of_ble_eq_true rfl, Nat.le_of_ble_eq_true rfl⟩ d_X_made_156 ⟨Nat.le_of_ble_eq_true rfl, Nat.le_of_ble_eq_true rfl⟩ (fun H locs hP hD hS => ?_)
    exact zraA E hS (fun t ht hW => ⟨q9, rfl, ⟨by rw [ht]; exact hP, va_K.moved hW.alike hK, hD⟩⟩) d_X_made_159
  · refine zMa_of "CoastLamps" rfl (by decide) (Nat.le_of_ble_eq_true rfl) ?_
    intro p e s m below meth c ls E hnm hB hA hP hK hD hS hl
    obtain ⟨hx, hb, hml, ho, hts, hr, hlk⟩ := id E
    have hl : lv_has ls 3 [(0, .ref aX), (1, .int (nI (8 + 1))), (2, .int y)] := hl
    refine lv_iload_n hx hb d_X_made_0 rfl (lv_at hl 1 rfl) ?_
    refine lv_tableOut (tgt := 160) hx hb d_X_made_1 (by decide) (by decide) ?_
    refine va_new (ci := 8) (fs := [.null, .int 0, .int 0, .int 0, .int 0, .int 0]) (C := R_Outer) (T := F_Lamp) (N := 6) hx hb hts i_Outer t_Lamp o_Lamp ho (hts _ kw_238) (hts _ kw_239) (hts _ kw_13) hK hP hD hS hA rfl (fun j hj => by rcases (show j = 0 ∨ j = 1 ∨ j = 2 ∨ j = 3 ∨ j = 4 ∨ j = 5 by omega) with rfl | rfl | rfl | rfl | rfl | rfl <;> rfl) (Nat.le_of_ble_eq_true rfl) (Nat.le_of_ble_eq_true rfl) d_X_made_160 (fun q9 H hP hD hS => ?_)
    refine lv_dup hx hb d_X_made_163 rfl ?_
    refine lv_aload_n hx hb d_X_made_164 rfl (lv_at hl 0 rfl) ?_
    refine zget (ci := 10) (fs := [.ref aC, .ref aA, .int (nI n), .int ni, .int ac, .int bl, .long sto]) E hK hP 3 rfl zC_X 0 (by decide) kw_43 (Or.inl rfl) rfl d_X_made_165 ?_
    refine lv_iload_n hx hb d_X_made_168 rfl (lv_at hl 1 rfl) ?_
    refine lv_iload_n hx hb d_X_made_169 rfl (lv_at hl 2 rfl) ?_
    refine zcI (As := [.ref aC, .int (nI (8 + 1)), .int y]) (rest := [.ref q9]) E cy_Outer_init kw_241 rfl kw_240 (c_Outer_init l dC dI (t3 c1 c2 c3) A q9 8 (by decide) aC (nI (8 + 1)) y (wx c1 c2 c3 aX aC aD aE aA ad d n kk ht tk so lt sto ni ac bl t)) hK hP hD hS rfl hl.1 rfl (Nat.le_of_ble_eq_true rfl) ⟨Nat.le_of_ble_eq_true rfl, Nat.le_of_ble_eq_true rfl⟩ d_X_made_170 ⟨Nat.le_of_ble_eq_true rfl, Nat.le_of_ble_eq_true rfl⟩ (fun H locs hP hD hS => ?_)
    exact zraA E hS (fun t ht hW => ⟨q9, rfl, ⟨by rw [ht]; exact hP, va_K.moved hW.alike hK, hD⟩⟩) d_X_made_173
section PU
variable {c1 c2 c3 : ClassId} {aX aC aD aE aA : Nat} {ad : Nat → Nat} {d : Nat → Int32} {n : Nat} {kk : Nat → Nat} {ht tk so lt : Nat → Int32} {sto : Int64} {ni ac bl : Int32} {t : zT}
theorem pl_push (q k : Nat) (y : Int32) (hz : tk n = 0 ∧ so n = 0 ∧ lt n = 0) : pl aC ad kk ht tk so lt n ++ [wL aC q k (nI (k + 1)) y 0 0 0] = pl aC (updN ad n q) (updN kk n k) (upd ht n y) tk so lt (n + 1) := by
  obtain ⟨h1, h2, h3⟩ := hz
  unfold pl
  rw [List.range_succ, List.map_append]
  congr 1
  · apply List.map_congr_left
    intro i hi
    have hi' := List.mem_range.mp hi
    have hne : ¬ i = n := by omega
    simp [updN, upd, hne]
  · simp [updN, upd, h1, h2, h3]
theorem x_push (q k : Nat) (y : Int32) (hz : tk n = 0 ∧ so n = 0 ∧ lt n = 0) :
    wc c1 c2 aC aD aE d ((aX, .inr (10, [.ref aC, .ref aA, .int (nI (n + 1)), .int ni, .int ac, .int bl, .long sto])) :: (aA, .inl (c3, 60, .inr (.inr (.inr (.inr (va_up (fun i => if i < n then some (ad i) else none) n (some q))))))) :: (pl aC ad kk ht tk so lt n ++ [wL aC q k (nI (k + 1)) y 0 0 0])) t
      = wx c1 c2 c3 aX aC aD aE aA (updN ad n q) d (n + 1) (updN kk n k) (upd ht n y) tk so lt sto ni ac bl t := by
  rw [pl_push q k y hz]
  have e : va_up (fun i => if i < n then some (ad i) else none) n (some q) = (fun i => if i < n + 1 then some (updN ad n q i) else none) := by
    funext i
    unfold va_up updN
    by_cases h1 : i = n
    · simp [h1]
    · by_cases h2 : i < n
      · simp [h1, h2, Nat.lt_succ_of_lt h2]
      · have h3 : ¬ i < n + 1 := by omega
        simp [h1, h2, h3]
  rw [e]
end PU
set_option maxHeartbeats 1000000 in
set_option maxRecDepth 100000 in
theorem c_X_lamp (l : Launch) (dC : Nat → ClassId) (dI : Nat → Nat → Nat) (c1 c2 c3 : ClassId) (A : Nat → Prop) (aX aC aD aE aA : Nat) (ad : Nat → Nat) (d : Nat → Int32) (n : Nat) (kk : Nat → Nat) (ht tk so lt : Nat → Int32) (sto : Int64) (ni ac bl : Int32) (t : zT) (hI : zInv (d, n, kk, ht, tk, so, lt, sto, ni, ac, bl, t)) (x y : Int32) : zMa l y_X_lamp b_X_lamp 4 (some (FieldType.int)) 8 180 1 6 [.ref aX, .int x, .int y] (dC, dI) (t3 c1 c2 c3) A (xW c1 c2 c3 aX aC aD aE aA ad (d, n, kk, ht, tk, so, lt, sto, ni, ac, bl, t)) (fun rv t9 => rv = some (.int (lampA (d, n, kk, ht, tk, so, lt, sto, ni, ac, bl, t) x y).1) ∧ ∃ ad2 : Nat → Nat, zW (dC, dI) (t3 c1 c2 c3) A (xW c1 c2 c3 aX aC aD aE aA ad2 (lampA (d, n, kk, ht, tk, so, lt, sto, ni, ac, bl, t) x y).2) t9) := by
  obtain ⟨hn, hkk, hz⟩ : n ≤ 60 ∧ (∀ i, i < n → kk i < 9) ∧ ∀ i, n ≤ i → tk i = 0 ∧ so i = 0 ∧ lt i = 0 := hI
  by_cases h1 : 1 ≤ x ∧ x ≤ 9
  · by_cases h2 : 0 ≤ y ∧ y ≤ 500
    · obtain ⟨q, hq, rfl⟩ := kq_of h1
      by_cases h3 : n = 60
      · have e9 : lampA (d, n, kk, ht, tk, so, lt, sto, ni, ac, bl, t) (nI (q + 1)) y = (-2, (d, n, kk, ht, tk, so, lt, sto, ni, ac, bl, t)) := by show (if _ then _ else _) = _; rw [if_pos ⟨h1, h2⟩, if_pos h3]
        rw [e9]
        refine zMa_of "CoastLamps" rfl (by decide) (Nat.le_of_ble_eq_true rfl) ?_
        intro p e s m below meth c ls E hnm hB hA hP hK hD hS hl
        obtain ⟨hx, hb, hml, ho, hts, hr, hlk⟩ := id E
        have hl : lv_has ls 4 [(0, .ref aX), (1, .int (nI (q + 1))), (2, .int y)] := hl
        refine lv_iload_n hx hb d_X_lamp_0 rfl (lv_at hl 1 rfl) ?_
        refine lv_iconst (v := 1) hx hb d_X_lamp_1 (by decide) ?_
        refine lv_bipush (v := 9) hx hb d_X_lamp_2 (by decide) ?_
        refine zcS (As := [.int (nI (q + 1)), .int 1, .int 9]) (rest := []) E cy_X_within kw_70 kw_69 rfl (c_X_within l dC dI (t3 c1 c2 c3) A (wx c1 c2 c3 aX aC aD aE aA ad d n kk ht tk so lt sto ni ac bl t) (nI (q + 1)) 1 9) hK hP hD hS rfl hl.1 rfl (Nat.le_of_ble_eq_true rfl) ⟨Nat.le_of_ble_eq_true rfl, Nat.le_of_ble_eq_true rfl⟩ d_X_lamp_4 ⟨Nat.le_of_ble_eq_true rfl, Nat.le_of_ble_eq_true rfl⟩ (fun H locs hP hD hS => ?_)
        rw [show zb (decide (1 ≤ nI (q + 1) ∧ nI (q + 1) ≤ 9)) = 1 from by rw [decide_eq_true (h1)]; rfl]
        refine lv_if_eq (tgt := 21) hx hb d_X_lamp_7 (by decide) (fun h9 => absurd h9 (by decide)) (fun _ => ?_)
        refine lv_iload_n hx hb d_X_lamp_10 rfl (lv_at hl 2 rfl) ?_
        refine lv_iconst (v := 0) hx hb d_X_lamp_11 (by decide) ?_
        refine lv_sipush (v := 500) hx hb d_X_lamp_12 (by decide) ?_
        refine zcS (As := [.int y, .int 0, .int 500]) (rest := []) E cy_X_within kw_70 kw_69 rfl (c_X_within l dC dI (t3 c1 c2 c3) A (wx c1 c2 c3 aX aC aD aE aA ad d n kk ht tk so lt sto ni ac bl t) y 0 500) hK hP hD hS rfl hl.1 rfl (Nat.le_of_ble_eq_true rfl) ⟨Nat.le_of_ble_eq_true rfl, Nat.le_of_ble_eq_true rfl⟩ d_X_lamp_15 ⟨Nat.le_of_ble_eq_true rfl, Nat.le_of_ble_eq_true rfl⟩ (fun H locs hP hD hS => ?_)
        rw [show zb (decide (0 ≤ y ∧ y ≤ 500)) = 1 from by rw [decide_eq_true (h2)]; rfl]
        refine lv_if_ne (tgt := 23) hx hb d_X_lamp_18 (by decide) (fun _ => ?_) (fun h9 => absurd h9 (by decide))
        refine lv_aload_n hx hb d_X_lamp_23 rfl (lv_at hl 0 rfl) ?_
        refine zget (ci := 10) (fs := [.ref aC, .ref aA, .int (nI n), .int ni, .int ac, .int bl, .long sto]) E hK hP 3 rfl zC_X 2 (by decide) kw_45 (Or.inl rfl) rfl d_X_lamp_24 ?_
        refine lv_aload_n hx hb d_X_lamp_27 rfl (lv_at hl 0 rfl) ?_
        refine zget (ci := 10) (fs := [.ref aC, .ref aA, .int (nI n), .int ni, .int ac, .int bl, .long sto]) E hK hP 3 rfl zC_X 1 (by decide) kw_44 (Or.inl rfl) rfl d_X_lamp_28 ?_
        refine va_alen (x := (60, .inr (.inr (.inr (.inr (fun i => if i < n then some (ad i) else none)))))) hx hb hK hP 4 2 rfl rfl (v := nI 60) rfl d_X_lamp_31 ?_
        refine lv_icmp_lt (tgt := 38) hx hb d_X_lamp_32 (by decide) (fun h9 => absurd h9 (by rw [h3]; decide)) (fun _ => ?_)
        refine lv_bipush (v := (-2)) hx hb d_X_lamp_35 (by decide) ?_
        refine W.widen (k := 1) (n := 6) (by decide) (by decide) ?_
        exact zriA E hS (fun t ht hW => ⟨rfl, ad, ⟨by rw [ht]; exact hP, va_K.moved hW.alike hK, hD⟩⟩) d_X_lamp_37
      · have e9 : lampA (d, n, kk, ht, tk, so, lt, sto, ni, ac, bl, t) (nI (q + 1)) y = (nI n, (d, n + 1, updN kk n q, upd ht n y, tk, so, lt, sto, ni, ac, bl, t)) := by show (if _ then _ else _) = _; rw [if_pos ⟨h1, h2⟩, if_neg h3, nI_clamp (by omega), Nat.add_sub_cancel]
        rw [e9]
        have hn60 : n < 60 := by omega
        refine zMa_of "CoastLamps" rfl (by decide) (Nat.le_of_ble_eq_true rfl) ?_
        intro p e s m below meth c ls E hnm hB hA hP hK hD hS hl
        obtain ⟨hx, hb, hml, ho, hts, hr, hlk⟩ := id E
        have hl : lv_has ls 4 [(0, .ref aX), (1, .int (nI (q + 1))), (2, .int y)] := hl
        refine lv_iload_n hx hb d_X_lamp_0 rfl (lv_at hl 1 rfl) ?_
        refine lv_iconst (v := 1) hx hb d_X_lamp_1 (by decide) ?_
        refine lv_bipush (v := 9) hx hb d_X_lamp_2 (by decide) ?_
        refine zcS (As := [.int (nI (q + 1)), .int 1, .int 9]) (rest := []) E cy_X_within kw_70 kw_69 rfl (c_X_within l dC dI (t3 c1 c2 c3) A (wx c1 c2 c3 aX aC aD aE aA ad d n kk ht tk so lt sto ni ac bl t) (nI (q + 1)) 1 9) hK hP hD hS rfl hl.1 rfl (Nat.le_of_ble_eq_true rfl) ⟨Nat.le_of_ble_eq_true rfl, Nat.le_of_ble_eq_true rfl⟩ d_X_lamp_4 ⟨Nat.le_of_ble_eq_true rfl, Nat.le_of_ble_eq_true rfl⟩ (fun H locs hP hD hS => ?_)
        rw [show zb (decide (1 ≤ nI (q + 1) ∧ nI (q + 1) ≤ 9)) = 1 from by rw [decide_eq_true (h1)]; rfl]
        refine lv_if_eq (tgt := 21) hx hb d_X_lamp_7 (by decide) (fun h9 => absurd h9 (by decide)) (fun _ => ?_)
        refine lv_iload_n hx hb d_X_lamp_10 rfl (lv_at hl 2 rfl) ?_
        refine lv_iconst (v := 0) hx hb d_X_lamp_11 (by decide) ?_
        refine lv_sipush (v := 500) hx hb d_X_lamp_12 (by decide) ?_
        refine zcS (As := [.int y, .int 0, .int 500]) (rest := []) E cy_X_within kw_70 kw_69 rfl (c_X_within l dC dI (t3 c1 c2 c3) A (wx c1 c2 c3 aX aC aD aE aA ad d n kk ht tk so lt sto ni ac bl t) y 0 500) hK hP hD hS rfl hl.1 rfl (Nat.le_of_ble_eq_true rfl) ⟨Nat.le_of_ble_eq_true rfl, Nat.le_of_ble_eq_true rfl⟩ d_X_lamp_15 ⟨Nat.le_of_ble_eq_true rfl, Nat.le_of_ble_eq_true rfl⟩ (fun H locs hP hD hS => ?_)
        rw [show zb (decide (0 ≤ y ∧ y ≤ 500)) = 1 from by rw [decide_eq_true (h2)]; rfl]
        refine lv_if_ne (tgt := 23) hx hb d_X_lamp_18 (by decide) (fun _ => ?_) (fun h9 => absurd h9 (by decide))
        refine lv_aload_n hx hb d_X_lamp_23 rfl (lv_at hl 0 rfl) ?_
        refine zget (ci := 10) (fs := [.ref aC, .ref aA, .int (nI n), .int ni, .int ac, .int bl, .long sto]) E hK hP 3 rfl zC_X 2 (by decide) kw_45 (Or.inl rfl) rfl d_X_lamp_24 ?_
        refine lv_aload_n hx hb d_X_lamp_27 rfl (lv_at hl 0 rfl) ?_
        refine zget (ci := 10) (fs := [.ref aC, .ref aA, .int (nI n), .int ni, .int ac, .int bl, .long sto]) E hK hP 3 rfl zC_X 1 (by decide) kw_44 (Or.inl rfl) rfl d_X_lamp_28 ?_
        refine va_alen (x := (60, .inr (.inr (.inr (.inr (fun i => if i < n then some (ad i) else none)))))) hx hb hK hP 4 2 rfl rfl (v := nI 60) rfl d_X_lamp_31 ?_
        refine lv_icmp_lt (tgt := 38) hx hb d_X_lamp_32 (by decide) (fun _ => ?_) (fun h9 => absurd (nI_lt hn60 (by decide)) h9)
        refine lv_aload_n hx hb d_X_lamp_38 rfl (lv_at hl 0 rfl) ?_
        refine zget (ci := 10) (fs := [.ref aC, .ref aA, .int (nI n), .int ni, .int ac, .int bl, .long sto]) E hK hP 3 rfl zC_X 2 (by decide) kw_45 (Or.inl rfl) rfl d_X_lamp_39 ?_
        refine lv_istore_n (lv' := [(3, .int (nI n)), (0, .ref aX), (1, .int (nI (q + 1))), (2, .int y)]) hx hb d_X_lamp_42 rfl hl (by decide) rfl (fun ls hl => ?_)
        refine lv_aload_n hx hb d_X_lamp_43 rfl (lv_at hl 1 rfl) ?_
        refine zget (ci := 10) (fs := [.ref aC, .ref aA, .int (nI n), .int ni, .int ac, .int bl, .long sto]) E hK hP 3 rfl zC_X 1 (by decide) kw_44 (Or.inl rfl) rfl d_X_lamp_44 ?_
        refine lv_iload_n hx hb d_X_lamp_47 rfl (lv_at hl 0 rfl) ?_
        refine lv_aload_n hx hb d_X_lamp_48 rfl (lv_at hl 1 rfl) ?_
        refine lv_iload_n hx hb d_X_lamp_49 rfl (lv_at hl 2 rfl) ?_
        refine lv_iload_n hx hb d_X_lamp_50 rfl (lv_at hl 3 rfl) ?_
        refine zcVA (As := [.int (nI (q + 1)), .int y]) (rest := [.int (nI n), .ref aA]) (ci := 10) E hB cy_X_made kw_86 ks_0 kw_84 (c_X_made l dC dI c1 c2 c3 A aX aC aD aE aA ad d n kk ht tk so lt sto ni ac bl t q hq y) hK hP hD hS (fun q h => hA q (Nat.le_trans hS.1 h)) (fun _ h => h) 3 rfl zC_X.1 rfl rfl hl.1 rfl (Nat.le_of_ble_eq_true rfl) ⟨Nat.le_of_ble_eq_true rfl, Nat.le_of_ble_eq_true rfl⟩ d_X_lamp_51 ⟨Nat.le_of_ble_eq_true rfl, Nat.le_of_ble_eq_true rfl⟩ (fun rv t9 H locs ht9 hvm hp hz9 hk9 hS => ?_)
        obtain ⟨q9, rfl, hP1, hK1, hD⟩ := hp
        rw [ht9] at hP1
        refine va_astqO hx hb hK hP1 hD hS 4 2 (wx c1 c2 c3 aX aC aD aE aA ad d n kk ht tk so lt sto ni ac bl t).length q rfl rfl (hB.2 q hq) zpA (zC_K hq).1 (vp_in_nI hn60 (by decide)) d_X_lamp_54 (fun H locs hP hD hS => ?_)
        rw [nI_clamp (by omega)] at hP hD
        have hP : va_P (dC, dI) classes (wc c1 c2 aC aD aE d ((aX, .inr (10, [.ref aC, .ref aA, .int (nI n), .int ni, .int ac, .int bl, .long sto])) :: (aA, .inl (c3, 60, .inr (.inr (.inr (.inr (va_up (fun i => if i < n then some (ad i) else none) n (some q9))))))) :: (pl aC ad kk ht tk so lt n ++ [wL aC q9 q (nI (q + 1)) y 0 0 0])) t) H := hP
        have hD : va_D A (wc c1 c2 aC aD aE d ((aX, .inr (10, [.ref aC, .ref aA, .int (nI n), .int ni, .int ac, .int bl, .long sto])) :: (aA, .inl (c3, 60, .inr (.inr (.inr (.inr (va_up (fun i => if i < n then some (ad i) else none) n (some q9))))))) :: (pl aC ad kk ht tk so lt n ++ [wL aC q9 q (nI (q + 1)) y 0 0 0])) t) := hD
        refine lv_aload_n hx hb d_X_lamp_55 rfl (lv_at hl 1 rfl) ?_
        refine lv_dup hx hb d_X_lamp_56 rfl ?_
        refine zget (ci := 10) (fs := [.ref aC, .ref aA, .int (nI n), .int ni, .int ac, .int bl, .long sto]) E hK hP 3 rfl zC_X 2 (by decide) kw_45 (Or.inl rfl) rfl d_X_lamp_57 ?_
        refine lv_iconst (v := 1) hx hb d_X_lamp_60 (by decide) ?_
        refine lv_iadd hx hb d_X_lamp_61 ?_
        rw [nI_1]
        refine zput (ci := 10) (fs := [.ref aC, .ref aA, .int (nI n), .int ni, .int ac, .int bl, .long sto]) (ty := .int) (v := .int (nI (n + 1))) (ws2 := wc c1 c2 aC aD aE d ((aX, .inr (10, [.ref aC, .ref aA, .int (nI (n + 1)), .int ni, .int ac, .int bl, .long sto])) :: (aA, .inl (c3, 60, .inr (.inr (.inr (.inr (va_up (fun i => if i < n then some (ad i) else none) n (some q9))))))) :: (pl aC ad kk ht tk so lt n ++ [wL aC q9 q (nI (q + 1)) y 0 0 0])) t) E hK hP hD hS 3 rfl zC_X t_X o_X n_X 2 (by decide) kw_45 (Or.inl rfl) rfl rfl rfl rfl (Nat.le_of_ble_eq_true rfl) d_X_lamp_62 rfl (fun H locs hP hD hS => ?_)
        rw [x_push q9 q y (hz n (Nat.le_refl n))] at hP hD
        refine lv_iload_n hx hb d_X_lamp_65 rfl (lv_at hl 0 rfl) ?_
        exact zriA E hS (fun t ht hW => ⟨rfl, updN ad n q9, ⟨by rw [ht]; exact hP, va_K.moved hW.alike hK, hD⟩⟩) d_X_lamp_66
    · have e9 : lampA (d, n, kk, ht, tk, so, lt, sto, ni, ac, bl, t) x y = (-1, (d, n, kk, ht, tk, so, lt, sto, ni, ac, bl, t)) := by show (if _ then _ else _) = _; rw [if_neg (fun h => h2 h.2)]
      rw [e9]
      refine zMa_of "CoastLamps" rfl (by decide) (Nat.le_of_ble_eq_true rfl) ?_
      intro p e s m below meth c ls E hnm hB hA hP hK hD hS hl
      obtain ⟨hx, hb, hml, ho, hts, hr, hlk⟩ := id E
      have hl : lv_has ls 4 [(0, .ref aX), (1, .int x), (2, .int y)] := hl
      refine lv_iload_n hx hb d_X_lamp_0 rfl (lv_at hl 1 rfl) ?_
      refine lv_iconst (v := 1) hx hb d_X_lamp_1 (by decide) ?_
      refine lv_bipush (v := 9) hx hb d_X_lamp_2 (by decide) ?_
      refine zcS (As := [.int x, .int 1, .int 9]) (rest := []) E cy_X_within kw_70 kw_69 rfl (c_X_within l dC dI (t3 c1 c2 c3) A (wx c1 c2 c3 aX aC aD aE aA ad d n kk ht tk so lt sto ni ac bl t) x 1 9) hK hP hD hS rfl hl.1 rfl (Nat.le_of_ble_eq_true rfl) ⟨Nat.le_of_ble_eq_true rfl, Nat.le_of_ble_eq_true rfl⟩ d_X_lamp_4 ⟨Nat.le_of_ble_eq_true rfl, Nat.le_of_ble_eq_true rfl⟩ (fun H locs hP hD hS => ?_)
      rw [show zb (decide (1 ≤ x ∧ x ≤ 9)) = 1 from by rw [decide_eq_true (h1)]; rfl]
      refine lv_if_eq (tgt := 21) hx hb d_X_lamp_7 (by decide) (fun h9 => absurd h9 (by decide)) (fun _ => ?_)
      refine lv_iload_n hx hb d_X_lamp_10 rfl (lv_at hl 2 rfl) ?_
      refine lv_iconst (v := 0) hx hb d_X_lamp_11 (by decide) ?_
      refine lv_sipush (v := 500) hx hb d_X_lamp_12 (by decide) ?_
      refine zcS (As := [.int y, .int 0, .int 500]) (rest := []) E cy_X_within kw_70 kw_69 rfl (c_X_within l dC dI (t3 c1 c2 c3) A (wx c1 c2 c3 aX aC aD aE aA ad d n kk ht tk so lt sto ni ac bl t) y 0 500) hK hP hD hS rfl hl.1 rfl (Nat.le_of_ble_eq_true rfl) ⟨Nat.le_of_ble_eq_true rfl, Nat.le_of_ble_eq_true rfl⟩ d_X_lamp_15 ⟨Nat.le_of_ble_eq_true rfl, Nat.le_of_ble_eq_true rfl⟩ (fun H locs hP hD hS => ?_)
      rw [show zb (decide (0 ≤ y ∧ y ≤ 500)) = 0 from by rw [decide_eq_false (h2)]; rfl]
      refine lv_if_ne (tgt := 23) hx hb d_X_lamp_18 (by decide) (fun h9 => absurd (rfl) h9) (fun _ => ?_)
      refine lv_iconst (v := (-1)) hx hb d_X_lamp_21 (by decide) ?_
      refine W.widen (k := 1) (n := 6) (by decide) (by decide) ?_
      exact zriA E hS (fun t ht hW => ⟨rfl, ad, ⟨by rw [ht]; exact hP, va_K.moved hW.alike hK, hD⟩⟩) d_X_lamp_22
  · have e9 : lampA (d, n, kk, ht, tk, so, lt, sto, ni, ac, bl, t) x y = (-1, (d, n, kk, ht, tk, so, lt, sto, ni, ac, bl, t)) := by show (if _ then _ else _) = _; rw [if_neg (fun h => h1 h.1)]
    rw [e9]
    refine zMa_of "CoastLamps" rfl (by decide) (Nat.le_of_ble_eq_true rfl) ?_
    intro p e s m below meth c ls E hnm hB hA hP hK hD hS hl
    obtain ⟨hx, hb, hml, ho, hts, hr, hlk⟩ := id E
    have hl : lv_has ls 4 [(0, .ref aX), (1, .int x), (2, .int y)] := hl
    refine lv_iload_n hx hb d_X_lamp_0 rfl (lv_at hl 1 rfl) ?_
    refine lv_iconst (v := 1) hx hb d_X_lamp_1 (by decide) ?_
    refine lv_bipush (v := 9) hx hb d_X_lamp_2 (by decide) ?_
    refine zcS (As := [.int x, .int 1, .int 9]) (rest := []) E cy_X_within kw_70 kw_69 rfl (c_X_within l dC dI (t3 c1 c2 c3) A (wx c1 c2 c3 aX aC aD aE aA ad d n kk ht tk so lt sto ni ac bl t) x 1 9) hK hP hD hS rfl hl.1 rfl (Nat.le_of_ble_eq_true rfl) ⟨Nat.le_of_ble_eq_true rfl, Nat.le_of_ble_eq_true rfl⟩ d_X_lamp_4 ⟨Nat.le_of_ble_eq_true rfl, Nat.le_of_ble_eq_true rfl⟩ (fun H locs hP hD hS => ?_)
    rw [show zb (decide (1 ≤ x ∧ x ≤ 9)) = 0 from by rw [decide_eq_false (h1)]; rfl]
    refine lv_if_eq (tgt := 21) hx hb d_X_lamp_7 (by decide) (fun _ => ?_) (fun h9 => absurd (rfl) h9)
    refine lv_iconst (v := (-1)) hx hb d_X_lamp_21 (by decide) ?_
    refine W.widen (k := 1) (n := 6) (by decide) (by decide) ?_
    exact zriA E hS (fun t ht hW => ⟨rfl, ad, ⟨by rw [ht]; exact hP, va_K.moved hW.alike hK, hD⟩⟩) d_X_lamp_22
