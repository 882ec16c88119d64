set_option maxHeartbeats 1000000 in
set_option maxRecDepth 100000 in
theorem c_M_ask (l : Launch) (dC : Nat → ClassId) (dI : Nat → Nat → Nat) (g1 g2 g3 g4 g5 g6 g7 : ClassId) (A : Nat → Prop) (aM m1 m2 m3 m4 m5 m6 m7 : Nat) (d : Nat → Int32) (n : Nat) (kk : Nat → Nat) (ht tk so lt : Nat → Int32) (sto : Int64) (ni ac bl : Int32) (t : zT) (hI : zInv (d, n, kk, ht, tk, so, lt, sto, ni, ac, bl, t)) (x mb y : Int32) : zM l y_M_ask b_M_ask 4 (some (FieldType.long)) 8 171 [.ref aM, .int x, .int mb, .int y] (dC, dI) (t7 g1 g2 g3 g4 g5 g6 g7) A (mW g1 g2 g3 g4 g5 g6 g7 aM m1 m2 m3 m4 m5 m6 m7 (d, n, kk, ht, tk, so, lt, sto, ni, ac, bl, t)) (mW g1 g2 g3 g4 g5 g6 g7 aM m1 m2 m3 m4 m5 m6 m7 (askA (d, n, kk, ht, tk, so, lt, sto, ni, ac, bl, t) x mb y).2) (some (.long (askA (d, n, kk, ht, tk, so, lt, sto, ni, ac, bl, t) x mb y).1)) := by
  obtain ⟨hn, hkk, hz⟩ : n ≤ 60 ∧ (∀ i, i < n → kk i < 9) ∧ ∀ i, n ≤ i → tk i = 0 ∧ so i = 0 ∧ lt i = 0 := hI
  by_cases h1 : 0 ≤ x ∧ x ≤ nI n - 1
  · by_cases h2 : 0 ≤ mb ∧ mb ≤ 6
    · obtain ⟨i, hi0, rfl⟩ := isL_of (Nat.le_trans hn (by decide)) h1
      have hi : i < 60 := Nat.lt_of_lt_of_le hi0 hn
      have hkd : kdF kk i = nI (kk i + 1) := rfl
      obtain ⟨q, hq, rfl⟩ := in_of (q := 6) (by decide) (by decide) h2
      rcases (show q = 0 ∨ q = 1 ∨ q = 2 ∨ q = 3 ∨ q = 4 ∨ q = 5 ∨ q = 6 by omega) with rfl | rfl | rfl | rfl | rfl | rfl | rfl
      · have e9 : askA (d, n, kk, ht, tk, so, lt, sto, ni, ac, bl, t) (nI i) (nI 0) y = ((burnK (kk i) d y (so i, t0 t)).1.toInt64, (d, n, kk, ht, tk, upd so i (burnK (kk i) d y (so i, t0 t)).2.1, lt, sto, ni, ac + 1, bl, (burnK (kk i) d y (so i, t0 t)).2.2)) := by show (if _ then _ else _) = _; rw [if_pos ⟨h1, h2⟩, nI_clamp (i31 hi), if_neg (fun h => absurd h.1 (by decide))]; rfl
        rw [e9]
        refine zM_of "CoastLampsModel" rfl (by decide) (Nat.le_of_ble_eq_true rfl) ?_
        intro p e s m below meth c ls E hP hK hD hS hl
        obtain ⟨hx, hb, hml, ho, hts, hr, hlk⟩ := id E
        have hl : lv_has ls 4 [(0, .ref aM), (1, .int (nI i)), (2, .int (nI 0)), (3, .int y)] := hl
        refine lv_aload_n hx hb d_M_ask_0 rfl (lv_at hl 0 rfl) ?_
        refine lv_iload_n hx hb d_M_ask_1 rfl (lv_at hl 1 rfl) ?_
        refine zcV (As := [.int (nI i)]) (rest := []) (ci := 11) E cy_M_isLamp kw_648 ks_4 kw_646 (c_M_isLamp l dC dI g1 g2 g3 g4 g5 g6 g7 A aM m1 m2 m3 m4 m5 m6 m7 d n (kdF kk) ht tk so lt sto ni ac bl t (nI i)) hK hP hD hS 0 rfl zC_M.1 rfl rfl hl.1 rfl (Nat.le_of_ble_eq_true rfl) ⟨Nat.le_of_ble_eq_true rfl, Nat.le_of_ble_eq_true rfl⟩ d_M_ask_2 ⟨Nat.le_refl _, Nat.le_refl _⟩ (fun H locs hP hD hS => ?_)
        rw [show zb (decide (0 ≤ nI i ∧ nI i ≤ nI n - 1)) = 1 from by rw [decide_eq_true (h1)]; rfl]
        refine lv_if_eq (tgt := 18) hx hb d_M_ask_5 (by decide) (fun h9 => absurd h9 (by decide)) (fun _ => ?_)
        refine lv_iload_n hx hb d_M_ask_8 rfl (lv_at hl 2 rfl) ?_
        refine lv_iconst (v := 0) hx hb d_M_ask_9 (by decide) ?_
        refine lv_bipush (v := 6) hx hb d_M_ask_10 (by decide) ?_
        refine zcS (As := [.int (nI 0), .int 0, .int 6]) (rest := []) E cy_M_in kw_636 kw_635 rfl (c_M_in l dC dI (t7 g1 g2 g3 g4 g5 g6 g7) A (wm g1 g2 g3 g4 g5 g6 g7 aM m1 m2 m3 m4 m5 m6 m7 d n (kdF kk) ht tk so lt sto ni ac bl t) (nI 0) 0 6) hK hP hD hS rfl hl.1 rfl (Nat.le_of_ble_eq_true rfl) ⟨Nat.le_of_ble_eq_true rfl, Nat.le_of_ble_eq_true rfl⟩ d_M_ask_12 ⟨Nat.le_refl _, Nat.le_refl _⟩ (fun H locs hP hD hS => ?_)
        rw [show zb (decide (0 ≤ nI 0 ∧ nI 0 ≤ 6)) = 1 from by rw [decide_eq_true (h2)]; rfl]
        refine lv_if_ne (tgt := 22) hx hb d_M_ask_15 (by decide) (fun _ => ?_) (fun h9 => absurd h9 (by decide))
        refine lv_aload_n hx hb d_M_ask_22 rfl (lv_at hl 0 rfl) ?_
        refine zcV (As := []) (rest := []) (ci := 11) E cy_M_act kw_653 ks_5 kw_651 (c_M_act l dC dI g1 g2 g3 g4 g5 g6 g7 A aM m1 m2 m3 m4 m5 m6 m7 d n (kdF kk) ht tk so lt sto ni ac bl t) hK hP hD hS 0 rfl zC_M.1 rfl rfl hl.1 rfl (Nat.le_of_ble_eq_true rfl) ⟨Nat.le_of_ble_eq_true rfl, Nat.le_of_ble_eq_true rfl⟩ d_M_ask_23 ⟨Nat.le_refl _, Nat.le_refl _⟩ (fun H locs hP hD hS => ?_)
        have hP : va_P (dC, dI) classes (wm g1 g2 g3 g4 g5 g6 g7 aM m1 m2 m3 m4 m5 m6 m7 d n (kdF kk) ht tk so lt sto ni (ac + 1) bl (t.1, ⟨0, by decide⟩)) H := hP
        have hD : va_D A (wm g1 g2 g3 g4 g5 g6 g7 aM m1 m2 m3 m4 m5 m6 m7 d n (kdF kk) ht tk so lt sto ni (ac + 1) bl (t.1, ⟨0, by decide⟩)) := hD
        have hP : va_P (dC, dI) classes (wm g1 g2 g3 g4 g5 g6 g7 aM m1 m2 m3 m4 m5 m6 m7 d n (kdF kk) ht tk so lt sto ni (ac + 1) bl (t0 t)) H := hP
        have hD : va_D A (wm g1 g2 g3 g4 g5 g6 g7 aM m1 m2 m3 m4 m5 m6 m7 d n (kdF kk) ht tk so lt sto ni (ac + 1) bl (t0 t)) := hD
        refine lv_iload_n hx hb d_M_ask_26 rfl (lv_at hl 2 rfl) ?_
        refine lv_iconst (v := 4) hx hb d_M_ask_27 (by decide) ?_
        refine lv_icmp_le (tgt := 43) hx hb d_M_ask_28 (by decide) (fun _ => ?_) (fun h9 => absurd (by decide) h9)
        refine lv_iload_n hx hb d_M_ask_43 rfl (lv_at hl 2 rfl) ?_
        refine lv_tableIn (off := 40) (tgt := 84) hx hb d_M_ask_44 (by decide) (by decide) (by decide) (by decide) ?_
        refine lv_aload_n hx hb d_M_ask_84 rfl (lv_at hl 0 rfl) ?_
        refine lv_iload_n hx hb d_M_ask_85 rfl (lv_at hl 1 rfl) ?_
        refine lv_iload_n hx hb d_M_ask_86 rfl (lv_at hl 3 rfl) ?_
        have hP : va_P (dC, dI) classes (wm g1 g2 g3 g4 g5 g6 g7 aM m1 m2 m3 m4 m5 m6 m7 d n (kdF kk) ht tk (upd so i ((so i, t0 t) : zS).1) lt sto ni (ac + 1) bl ((so i, t0 t) : zS).2) H := by rw [show upd so i (((so i, t0 t) : zS)).1 = so from upd_me so i]; exact hP
        have hD : va_D A (wm g1 g2 g3 g4 g5 g6 g7 aM m1 m2 m3 m4 m5 m6 m7 d n (kdF kk) ht tk (upd so i ((so i, t0 t) : zS).1) lt sto ni (ac + 1) bl ((so i, t0 t) : zS).2) := by rw [show upd so i (((so i, t0 t) : zS)).1 = so from upd_me so i]; exact hD
        refine zcV (As := [.int (nI i), .int y]) (rest := []) (ci := 11) E cy_M_burn kw_662 ks_7 kw_660 (c_M_burn l dC dI g1 g2 g3 g4 g5 g6 g7 A aM m1 m2 m3 m4 m5 m6 m7 d n (kdF kk) ht tk so lt sto ni (ac + 1) bl i hi (so i, t0 t) (kk i) (hkk i hi0) hkd y) hK hP hD hS 0 rfl zC_M.1 rfl rfl hl.1 rfl (Nat.le_of_ble_eq_true rfl) ⟨Nat.le_of_ble_eq_true rfl, Nat.le_of_ble_eq_true rfl⟩ d_M_ask_87 ⟨Nat.le_refl _, Nat.le_refl _⟩ (fun H locs hP hD hS => ?_)
        have hP : va_P (dC, dI) classes (wm g1 g2 g3 g4 g5 g6 g7 aM m1 m2 m3 m4 m5 m6 m7 d n (kdF kk) ht tk (upd so i ((burnK (kk i) d y (so i, t0 t)).2 : zS).1) lt sto ni (ac + 1) bl ((burnK (kk i) d y (so i, t0 t)).2 : zS).2) H := hP
        have hD : va_D A (wm g1 g2 g3 g4 g5 g6 g7 aM m1 m2 m3 m4 m5 m6 m7 d n (kdF kk) ht tk (upd so i ((burnK (kk i) d y (so i, t0 t)).2 : zS).1) lt sto ni (ac + 1) bl ((burnK (kk i) d y (so i, t0 t)).2 : zS).2) := hD
        refine lv_i2l (v := ((burnK (kk i) d y (so i, t0 t)).1 : Int32).toInt64) hx hb d_M_ask_90 rfl ?_
        exact zrl E hK hP hD hS d_M_ask_91
      · have e9 : askA (d, n, kk, ht, tk, so, lt, sto, ni, ac, bl, t) (nI i) (nI 1) y = ((reachK (kk i) d (ht i) y (so i, t0 t)).1.toInt64, (d, n, kk, ht, tk, upd so i (reachK (kk i) d (ht i) y (so i, t0 t)).2.1, lt, sto, ni, ac + 1, bl, (reachK (kk i) d (ht i) y (so i, t0 t)).2.2)) := by show (if _ then _ else _) = _; rw [if_pos ⟨h1, h2⟩, nI_clamp (i31 hi), if_neg (fun h => absurd h.1 (by decide))]; rfl
        rw [e9]
        refine zM_of "CoastLampsModel" rfl (by decide) (Nat.le_of_ble_eq_true rfl) ?_
        intro p e s m below meth c ls E hP hK hD hS hl
        obtain ⟨hx, hb, hml, ho, hts, hr, hlk⟩ := id E
        have hl : lv_has ls 4 [(0, .ref aM), (1, .int (nI i)), (2, .int (nI 1)), (3, .int y)] := hl
        refine lv_aload_n hx hb d_M_ask_0 rfl (lv_at hl 0 rfl) ?_
        refine lv_iload_n hx hb d_M_ask_1 rfl (lv_at hl 1 rfl) ?_
        refine zcV (As := [.int (nI i)]) (rest := []) (ci := 11) E cy_M_isLamp kw_648 ks_4 kw_646 (c_M_isLamp l dC dI g1 g2 g3 g4 g5 g6 g7 A aM m1 m2 m3 m4 m5 m6 m7 d n (kdF kk) ht tk so lt sto ni ac bl t (nI i)) hK hP hD hS 0 rfl zC_M.1 rfl rfl hl.1 rfl (Nat.le_of_ble_eq_true rfl) ⟨Nat.le_of_ble_eq_true rfl, Nat.le_of_ble_eq_true rfl⟩ d_M_ask_2 ⟨Nat.le_refl _, Nat.le_refl _⟩ (fun H locs hP hD hS => ?_)
        rw [show zb (decide (0 ≤ nI i ∧ nI i ≤ nI n - 1)) = 1 from by rw [decide_eq_true (h1)]; rfl]
        refine lv_if_eq (tgt := 18) hx hb d_M_ask_5 (by decide) (fun h9 => absurd h9 (by decide)) (fun _ => ?_)
        refine lv_iload_n hx hb d_M_ask_8 rfl (lv_at hl 2 rfl) ?_
        refine lv_iconst (v := 0) hx hb d_M_ask_9 (by decide) ?_
        refine lv_bipush (v := 6) hx hb d_M_ask_10 (by decide) ?_
        refine zcS (As := [.int (nI 1), .int 0, .int 6]) (rest := []) E cy_M_in kw_636 kw_635 rfl (c_M_in l dC dI (t7 g1 g2 g3 g4 g5 g6 g7) A (wm g1 g2 g3 g4 g5 g6 g7 aM m1 m2 m3 m4 m5 m6 m7 d n (kdF kk) ht tk so lt sto ni ac bl t) (nI 1) 0 6) hK hP hD hS rfl hl.1 rfl (Nat.le_of_ble_eq_true rfl) ⟨Nat.le_of_ble_eq_true rfl, Nat.le_of_ble_eq_true rfl⟩ d_M_ask_12 ⟨Nat.le_refl _, Nat.le_refl _⟩ (fun H locs hP hD hS => ?_)
        rw [show zb (decide (0 ≤ nI 1 ∧ nI 1 ≤ 6)) = 1 from by rw [decide_eq_true (h2)]; rfl]
        refine lv_if_ne (tgt := 22) hx hb d_M_ask_15 (by decide) (fun _ => ?_) (fun h9 => absurd h9 (by decide))
        refine lv_aload_n hx hb d_M_ask_22 rfl (lv_at hl 0 rfl) ?_
        refine zcV (As := []) (rest := []) (ci := 11) E cy_M_act kw_653 ks_5 kw_651 (c_M_act l dC dI g1 g2 g3 g4 g5 g6 g7 A aM m1 m2 m3 m4 m5 m6 m7 d n (kdF kk) ht tk so lt sto ni ac bl t) hK hP hD hS 0 rfl zC_M.1 rfl rfl hl.1 rfl (Nat.le_of_ble_eq_true rfl) ⟨Nat.le_of_ble_eq_true rfl, Nat.le_of_ble_eq_true rfl⟩ d_M_ask_23 ⟨Nat.le_refl _, Nat.le_refl _⟩ (fun H locs hP hD hS => ?_)
        have hP : va_P (dC, dI) classes (wm g1 g2 g3 g4 g5 g6 g7 aM m1 m2 m3 m4 m5 m6 m7 d n (kdF kk) ht tk so lt sto ni (ac + 1) bl (t.1, ⟨0, by decide⟩)) H := hP
        have hD : va_D A (wm g1 g2 g3 g4 g5 g6 g7 aM m1 m2 m3 m4 m5 m6 m7 d n (kdF kk) ht tk so lt sto ni (ac + 1) bl (t.1, ⟨0, by decide⟩)) := hD
        have hP : va_P (dC, dI) classes (wm g1 g2 g3 g4 g5 g6 g7 aM m1 m2 m3 m4 m5 m6 m7 d n (kdF kk) ht tk so lt sto ni (ac + 1) bl (t0 t)) H := hP
        have hD : va_D A (wm g1 g2 g3 g4 g5 g6 g7 aM m1 m2 m3 m4 m5 m6 m7 d n (kdF kk) ht tk so lt sto ni (ac + 1) bl (t0 t)) := hD
        refine lv_iload_n hx hb d_M_ask_26 rfl (lv_at hl 2 rfl) ?_
        refine lv_iconst (v := 4) hx hb d_M_ask_27 (by decide) ?_
        refine lv_icmp_le (tgt := 43) hx hb d_M_ask_28 (by decide) (fun _ => ?_) (fun h9 => absurd (by decide) h9)
        refine lv_iload_n hx hb d_M_ask_43 rfl (lv_at hl 2 rfl) ?_
        refine lv_tableIn (off := 48) (tgt := 92) hx hb d_M_ask_44 (by decide) (by decide) (by decide) (by decide) ?_
        refine lv_aload_n hx hb d_M_ask_92 rfl (lv_at hl 0 rfl) ?_
        refine lv_iload_n hx hb d_M_ask_93 rfl (lv_at hl 1 rfl) ?_
        refine lv_iload_n hx hb d_M_ask_94 rfl (lv_at hl 3 rfl) ?_
        have hP : va_P (dC, dI) classes (wm g1 g2 g3 g4 g5 g6 g7 aM m1 m2 m3 m4 m5 m6 m7 d n (kdF kk) ht tk (upd so i ((so i, t0 t) : zS).1) lt sto ni (ac + 1) bl ((so i, t0 t) : zS).2) H := by rw [show upd so i (((so i, t0 t) : zS)).1 = so from upd_me so i]; exact hP
        have hD : va_D A (wm g1 g2 g3 g4 g5 g6 g7 aM m1 m2 m3 m4 m5 m6 m7 d n (kdF kk) ht tk (upd so i ((so i, t0 t) : zS).1) lt sto ni (ac + 1) bl ((so i, t0 t) : zS).2) := by rw [show upd so i (((so i, t0 t) : zS)).1 = so from upd_me so i]; exact hD
        refine zcV (As := [.int (nI i), .int y]) (rest := []) (ci := 11) E cy_M_reach kw_694 ks_15 kw_692 (c_M_reach l dC dI g1 g2 g3 g4 g5 g6 g7 A aM m1 m2 m3 m4 m5 m6 m7 d n (kdF kk) ht tk so lt sto ni (ac + 1) bl i hi (so i, t0 t) (kk i) (hkk i hi0) hkd y) hK hP hD hS 0 rfl zC_M.1 rfl rfl hl.1 rfl (Nat.le_of_ble_eq_true rfl) ⟨Nat.le_of_ble_eq_true rfl, Nat.le_of_ble_eq_true rfl⟩ d_M_ask_95 ⟨Nat.le_refl _, Nat.le_refl _⟩ (fun H locs hP hD hS => ?_)
        have hP : va_P (dC, dI) classes (wm g1 g2 g3 g4 g5 g6 g7 aM m1 m2 m3 m4 m5 m6 m7 d n (kdF kk) ht tk (upd so i ((reachK (kk i) d (ht i) y (so i, t0 t)).2 : zS).1) lt sto ni (ac + 1) bl ((reachK (kk i) d (ht i) y (so i, t0 t)).2 : zS).2) H := hP
        have hD : va_D A (wm g1 g2 g3 g4 g5 g6 g7 aM m1 m2 m3 m4 m5 m6 m7 d n (kdF kk) ht tk (upd so i ((reachK (kk i) d (ht i) y (so i, t0 t)).2 : zS).1) lt sto ni (ac + 1) bl ((reachK (kk i) d (ht i) y (so i, t0 t)).2 : zS).2) := hD
        refine lv_i2l (v := ((reachK (kk i) d (ht i) y (so i, t0 t)).1 : Int32).toInt64) hx hb d_M_ask_98 rfl ?_
        exact zrl E hK hP hD hS d_M_ask_99
      · have e9 : askA (d, n, kk, ht, tk, so, lt, sto, ni, ac, bl, t) (nI i) (nI 2) y = ((flashK (kk i) y (so i, t0 t)).1.toInt64, (d, n, kk, ht, tk, upd so i (flashK (kk i) y (so i, t0 t)).2.1, lt, sto, ni, ac + 1, bl, (flashK (kk i) y (so i, t0 t)).2.2)) := by show (if _ then _ else _) = _; rw [if_pos ⟨h1, h2⟩, nI_clamp (i31 hi), if_neg (fun h => absurd h.1 (by decide))]; rfl
        rw [e9]
        refine zM_of "CoastLampsModel" rfl (by decide) (Nat.le_of_ble_eq_true rfl) ?_
        intro p e s m below meth c ls E hP hK hD hS hl
        obtain ⟨hx, hb, hml, ho, hts, hr, hlk⟩ := id E
        have hl : lv_has ls 4 [(0, .ref aM), (1, .int (nI i)), (2, .int (nI 2)), (3, .int y)] := hl
        refine lv_aload_n hx hb d_M_ask_0 rfl (lv_at hl 0 rfl) ?_
        refine lv_iload_n hx hb d_M_ask_1 rfl (lv_at hl 1 rfl) ?_
        refine zcV (As := [.int (nI i)]) (rest := []) (ci := 11) E cy_M_isLamp kw_648 ks_4 kw_646 (c_M_isLamp l dC dI g1 g2 g3 g4 g5 g6 g7 A aM m1 m2 m3 m4 m5 m6 m7 d n (kdF kk) ht tk so lt sto ni ac bl t (nI i)) hK hP hD hS 0 rfl zC_M.1 rfl rfl hl.1 rfl (Nat.le_of_ble_eq_true rfl) ⟨Nat.le_of_ble_eq_true rfl, Nat.le_of_ble_eq_true rfl⟩ d_M_ask_2 ⟨Nat.le_refl _, Nat.le_refl _⟩ (fun H locs hP hD hS => ?_)
        rw [show zb (decide (0 ≤ nI i ∧ nI i ≤ nI n - 1)) = 1 from by rw [decide_eq_true (h1)]; rfl]
        refine lv_if_eq (tgt := 18) hx hb d_M_ask_5 (by decide) (fun h9 => absurd h9 (by decide)) (fun _ => ?_)
        refine lv_iload_n hx hb d_M_ask_8 rfl (lv_at hl 2 rfl) ?_
        refine lv_iconst (v := 0) hx hb d_M_ask_9 (by decide) ?_
        refine lv_bipush (v := 6) hx hb d_M_ask_10 (by decide) ?_
        refine zcS (As := [.int (nI 2), .int 0, .int 6]) (rest := []) E cy_M_in kw_636 kw_635 rfl (c_M_in l dC dI (t7 g1 g2 g3 g4 g5 g6 g7) A (wm g1 g2 g3 g4 g5 g6 g7 aM m1 m2 m3 m4 m5 m6 m7 d n (kdF kk) ht tk so lt sto ni ac bl t) (nI 2) 0 6) hK hP hD hS rfl hl.1 rfl (Nat.le_of_ble_eq_true rfl) ⟨Nat.le_of_ble_eq_true rfl, Nat.le_of_ble_eq_true rfl⟩ d_M_ask_12 ⟨Nat.le_refl _, Nat.le_refl _⟩ (fun H locs hP hD hS => ?_)
        rw [show zb (decide (0 ≤ nI 2 ∧ nI 2 ≤ 6)) = 1 from by rw [decide_eq_true (h2)]; rfl]
        refine lv_if_ne (tgt := 22) hx hb d_M_ask_15 (by decide) (fun _ => ?_) (fun h9 => absurd h9 (by decide))
        refine lv_aload_n hx hb d_M_ask_22 rfl (lv_at hl 0 rfl) ?_
        refine zcV (As := []) (rest := []) (ci := 11) E cy_M_act kw_653 ks_5 kw_651 (c_M_act l dC dI g1 g2 g3 g4 g5 g6 g7 A aM m1 m2 m3 m4 m5 m6 m7 d n (kdF kk) ht tk so lt sto ni ac bl t) hK hP hD hS 0 rfl zC_M.1 rfl rfl hl.1 rfl (Nat.le_of_ble_eq_true rfl) ⟨Nat.le_of_ble_eq_true rfl, Nat.le_of_ble_eq_true rfl⟩ d_M_ask_23 ⟨Nat.le_refl _, Nat.le_refl _⟩ (fun H locs hP hD hS => ?_)
        have hP : va_P (dC, dI) classes (wm g1 g2 g3 g4 g5 g6 g7 aM m1 m2 m3 m4 m5 m6 m7 d n (kdF kk) ht tk so lt sto ni (ac + 1) bl (t.1, ⟨0, by decide⟩)) H := hP
        have hD : va_D A (wm g1 g2 g3 g4 g5 g6 g7 aM m1 m2 m3 m4 m5 m6 m7 d n (kdF kk) ht tk so lt sto ni (ac + 1) bl (t.1, ⟨0, by decide⟩)) := hD
        have hP : va_P (dC, dI) classes (wm g1 g2 g3 g4 g5 g6 g7 aM m1 m2 m3 m4 m5 m6 m7 d n (kdF kk) ht tk so lt sto ni (ac + 1) bl (t0 t)) H := hP
        have hD : va_D A (wm g1 g2 g3 g4 g5 g6 g7 aM m1 m2 m3 m4 m5 m6 m7 d n (kdF kk) ht tk so lt sto ni (ac + 1) bl (t0 t)) := hD
        refine lv_iload_n hx hb d_M_ask_26 rfl (lv_at hl 2 rfl) ?_
        refine lv_iconst (v := 4) hx hb d_M_ask_27 (by decide) ?_
        refine lv_icmp_le (tgt := 43) hx hb d_M_ask_28 (by decide) (fun _ => ?_) (fun h9 => absurd (by decide) h9)
        refine lv_iload_n hx hb d_M_ask_43 rfl (lv_at hl 2 rfl) ?_
        refine lv_tableIn (off := 56) (tgt := 100) hx hb d_M_ask_44 (by decide) (by decide) (by decide) (by decide) ?_
        refine lv_aload_n hx hb d_M_ask_100 rfl (lv_at hl 0 rfl) ?_
        refine lv_iload_n hx hb d_M_ask_101 rfl (lv_at hl 1 rfl) ?_
        refine lv_iload_n hx hb d_M_ask_102 rfl (lv_at hl 3 rfl) ?_
        have hP : va_P (dC, dI) classes (wm g1 g2 g3 g4 g5 g6 g7 aM m1 m2 m3 m4 m5 m6 m7 d n (kdF kk) ht tk (upd so i ((so i, t0 t) : zS).1) lt sto ni (ac + 1) bl ((so i, t0 t) : zS).2) H := by rw [show upd so i (((so i, t0 t) : zS)).1 = so from upd_me so i]; exact hP
        have hD : va_D A (wm g1 g2 g3 g4 g5 g6 g7 aM m1 m2 m3 m4 m5 m6 m7 d n (kdF kk) ht tk (upd so i ((so i, t0 t) : zS).1) lt sto ni (ac + 1) bl ((so i, t0 t) : zS).2) := by rw [show upd so i (((so i, t0 t) : zS)).1 = so from upd_me so i]; exact hD
        refine zcV (As := [.int (nI i), .int y]) (rest := []) (ci := 11) E cy_M_flash kw_722 ks_22 kw_720 (c_M_flash l dC dI g1 g2 g3 g4 g5 g6 g7 A aM m1 m2 m3 m4 m5 m6 m7 d n (kdF kk) ht tk so lt sto ni (ac + 1) bl i hi (so i, t0 t) (kk i) (hkk i hi0) hkd y) hK hP hD hS 0 rfl zC_M.1 rfl rfl hl.1 rfl (Nat.le_of_ble_eq_true rfl) ⟨Nat.le_of_ble_eq_true rfl, Nat.le_of_ble_eq_true rfl⟩ d_M_ask_103 ⟨Nat.le_refl _, Nat.le_refl _⟩ (fun H locs hP hD hS => ?_)
        have hP : va_P (dC, dI) classes (wm g1 g2 g3 g4 g5 g6 g7 aM m1 m2 m3 m4 m5 m6 m7 d n (kdF kk) ht tk (upd so i ((flashK (kk i) y (so i, t0 t)).2 : zS).1) lt sto ni (ac + 1) bl ((flashK (kk i) y (so i, t0 t)).2 : zS).2) H := hP
        have hD : va_D A (wm g1 g2 g3 g4 g5 g6 g7 aM m1 m2 m3 m4 m5 m6 m7 d n (kdF kk) ht tk (upd so i ((flashK (kk i) y (so i, t0 t)).2 : zS).1) lt sto ni (ac + 1) bl ((flashK (kk i) y (so i, t0 t)).2 : zS).2) := hD
        refine lv_i2l (v := ((flashK (kk i) y (so i, t0 t)).1 : Int32).toInt64) hx hb d_M_ask_106 rfl ?_
        exact zrl E hK hP hD hS d_M_ask_107
      · have e9 : askA (d, n, kk, ht, tk, so, lt, sto, ni, ac, bl, t) (nI i) (nI 3) y = ((tendK (kk i) d y (so i, t0 t)).1.toInt64, (d, n, kk, ht, tk, upd so i (tendK (kk i) d y (so i, t0 t)).2.1, lt, sto, ni, ac + 1, bl, (tendK (kk i) d y (so i, t0 t)).2.2)) := by show (if _ then _ else _) = _; rw [if_pos ⟨h1, h2⟩, nI_clamp (i31 hi), if_neg (fun h => absurd h.1 (by decide))]; rfl
        rw [e9]
        refine zM_of "CoastLampsModel" rfl (by decide) (Nat.le_of_ble_eq_true rfl) ?_
        intro p e s m below meth c ls E hP hK hD hS hl
        obtain ⟨hx, hb, hml, ho, hts, hr, hlk⟩ := id E
        have hl : lv_has ls 4 [(0, .ref aM), (1, .int (nI i)), (2, .int (nI 3)), (3, .int y)] := hl
        refine lv_aload_n hx hb d_M_ask_0 rfl (lv_at hl 0 rfl) ?_
        refine lv_iload_n hx hb d_M_ask_1 rfl (lv_at hl 1 rfl) ?_
        refine zcV (As := [.int (nI i)]) (rest := []) (ci := 11) E cy_M_isLamp kw_648 ks_4 kw_646 (c_M_isLamp l dC dI g1 g2 g3 g4 g5 g6 g7 A aM m1 m2 m3 m4 m5 m6 m7 d n (kdF kk) ht tk so lt sto ni ac bl t (nI i)) hK hP hD hS 0 rfl zC_M.1 rfl rfl hl.1 rfl (Nat.le_of_ble_eq_true rfl) ⟨Nat.le_of_ble_eq_true rfl, Nat.le_of_ble_eq_true rfl⟩ d_M_ask_2 ⟨Nat.le_refl _, Nat.le_refl _⟩ (fun H locs hP hD hS => ?_)
        rw [show zb (decide (0 ≤ nI i ∧ nI i ≤ nI n - 1)) = 1 from by rw [decide_eq_true (h1)]; rfl]
        refine lv_if_eq (tgt := 18) hx hb d_M_ask_5 (by decide) (fun h9 => absurd h9 (by decide)) (fun _ => ?_)
        refine lv_iload_n hx hb d_M_ask_8 rfl (lv_at hl 2 rfl) ?_
        refine lv_iconst (v := 0) hx hb d_M_ask_9 (by decide) ?_
        refine lv_bipush (v := 6) hx hb d_M_ask_10 (by decide) ?_
        refine zcS (As := [.int (nI 3), .int 0, .int 6]) (rest := []) E cy_M_in kw_636 kw_635 rfl (c_M_in l dC dI (t7 g1 g2 g3 g4 g5 g6 g7) A (wm g1 g2 g3 g4 g5 g6 g7 aM m1 m2 m3 m4 m5 m6 m7 d n (kdF kk) ht tk so lt sto ni ac bl t) (nI 3) 0 6) hK hP hD hS rfl hl.1 rfl (Nat.le_of_ble_eq_true rfl) ⟨Nat.le_of_ble_eq_true rfl, Nat.le_of_ble_eq_true rfl⟩ d_M_ask_12 ⟨Nat.le_refl _, Nat.le_refl _⟩ (fun H locs hP hD hS => ?_)
        rw [show zb (decide (0 ≤ nI 3 ∧ nI 3 ≤ 6)) = 1 from by rw [decide_eq_true (h2)]; rfl]
        refine lv_if_ne (tgt := 22) hx hb d_M_ask_15 (by decide) (fun _ => ?_) (fun h9 => absurd h9 (by decide))
        refine lv_aload_n hx hb d_M_ask_22 rfl (lv_at hl 0 rfl) ?_
        refine zcV (As := []) (rest := []) (ci := 11) E cy_M_act kw_653 ks_5 kw_651 (c_M_act l dC dI g1 g2 g3 g4 g5 g6 g7 A aM m1 m2 m3 m4 m5 m6 m7 d n (kdF kk) ht tk so lt sto ni ac bl t) hK hP hD hS 0 rfl zC_M.1 rfl rfl hl.1 rfl (Nat.le_of_ble_eq_true rfl) ⟨Nat.le_of_ble_eq_true rfl, Nat.le_of_ble_eq_true rfl⟩ d_M_ask_23 ⟨Nat.le_refl _, Nat.le_refl _⟩ (fun H locs hP hD hS => ?_)
        have hP : va_P (dC, dI) classes (wm g1 g2 g3 g4 g5 g6 g7 aM m1 m2 m3 m4 m5 m6 m7 d n (kdF kk) ht tk so lt sto ni (ac + 1) bl (t.1, ⟨0, by decide⟩)) H := hP
        have hD : va_D A (wm g1 g2 g3 g4 g5 g6 g7 aM m1 m2 m3 m4 m5 m6 m7 d n (kdF kk) ht tk so lt sto ni (ac + 1) bl (t.1, ⟨0, by decide⟩)) := hD
        have hP : va_P (dC, dI) classes (wm g1 g2 g3 g4 g5 g6 g7 aM m1 m2 m3 m4 m5 m6 m7 d n (kdF kk) ht tk so lt sto ni (ac + 1) bl (t0 t)) H := hP
        have hD : va_D A (wm g1 g2 g3 g4 g5 g6 g7 aM m1 m2 m3 m4 m5 m6 m7 d n (kdF kk) ht tk so lt sto ni (ac + 1) bl (t0 t)) := hD
        refine lv_iload_n hx hb d_M_ask_26 rfl (lv_at hl 2 rfl) ?_
        refine lv_iconst (v := 4) hx hb d_M_ask_27 (by decide) ?_
        refine lv_icmp_le (tgt := 43) hx hb d_M_ask_28 (by decide) (fun _ => ?_) (fun h9 => absurd (by decide) h9)
        refine lv_iload_n hx hb d_M_ask_43 rfl (lv_at hl 2 rfl) ?_
        refine lv_tableIn (off := 64) (tgt := 108) hx hb d_M_ask_44 (by decide) (by decide) (by decide) (by decide) ?_
        refine lv_aload_n hx hb d_M_ask_108 rfl (lv_at hl 0 rfl) ?_
        refine lv_iload_n hx hb d_M_ask_109 rfl (lv_at hl 1 rfl) ?_
        refine lv_iload_n hx hb d_M_ask_110 rfl (lv_at hl 3 rfl) ?_
        have hP : va_P (dC, dI) classes (wm g1 g2 g3 g4 g5 g6 g7 aM m1 m2 m3 m4 m5 m6 m7 d n (kdF kk) ht tk (upd so i ((so i, t0 t) : zS).1) lt sto ni (ac + 1) bl ((so i, t0 t) : zS).2) H := by rw [show upd so i (((so i, t0 t) : zS)).1 = so from upd_me so i]; exact hP
        have hD : va_D A (wm g1 g2 g3 g4 g5 g6 g7 aM m1 m2 m3 m4 m5 m6 m7 d n (kdF kk) ht tk (upd so i ((so i, t0 t) : zS).1) lt sto ni (ac + 1) bl ((so i, t0 t) : zS).2) := by rw [show upd so i (((so i, t0 t) : zS)).1 = so from upd_me so i]; exact hD
        refine zcV (As := [.int (nI i), .int y]) (rest := []) (ci := 11) E cy_M_tend kw_746 ks_28 kw_744 (c_M_tend l dC dI g1 g2 g3 g4 g5 g6 g7 A aM m1 m2 m3 m4 m5 m6 m7 d n (kdF kk) ht tk so lt sto ni (ac + 1) bl i hi (so i, t0 t) (kk i) (hkk i hi0) hkd y) hK hP hD hS 0 rfl zC_M.1 rfl rfl hl.1 rfl (Nat.le_of_ble_eq_true rfl) ⟨Nat.le_of_ble_eq_true rfl, Nat.le_of_ble_eq_true rfl⟩ d_M_ask_111 ⟨Nat.le_refl _, Nat.le_refl _⟩ (fun H locs hP hD hS => ?_)
        have hP : va_P (dC, dI) classes (wm g1 g2 g3 g4 g5 g6 g7 aM m1 m2 m3 m4 m5 m6 m7 d n (kdF kk) ht tk (upd so i ((tendK (kk i) d y (so i, t0 t)).2 : zS).1) lt sto ni (ac + 1) bl ((tendK (kk i) d y (so i, t0 t)).2 : zS).2) H := hP
        have hD : va_D A (wm g1 g2 g3 g4 g5 g6 g7 aM m1 m2 m3 m4 m5 m6 m7 d n (kdF kk) ht tk (upd so i ((tendK (kk i) d y (so i, t0 t)).2 : zS).1) lt sto ni (ac + 1) bl ((tendK (kk i) d y (so i, t0 t)).2 : zS).2) := hD
        refine lv_i2l (v := ((tendK (kk i) d y (so i, t0 t)).1 : Int32).toInt64) hx hb d_M_ask_114 rfl ?_
        exact zrl E hK hP hD hS d_M_ask_115
      · have e9 : askA (d, n, kk, ht, tk, so, lt, sto, ni, ac, bl, t) (nI i) (nI 4) y = ((rankK (kk i) (ht i) (tk i) (so i, t0 t)).1.toInt64, (d, n, kk, ht, tk, upd so i (rankK (kk i) (ht i) (tk i) (so i, t0 t)).2.1, lt, sto, ni, ac + 1, bl, (rankK (kk i) (ht i) (tk i) (so i, t0 t)).2.2)) := by show (if _ then _ else _) = _; rw [if_pos ⟨h1, h2⟩, nI_clamp (i31 hi), if_neg (fun h => absurd h.1 (by decide))]; rfl
        rw [e9]
        refine zM_of "CoastLampsModel" rfl (by decide) (Nat.le_of_ble_eq_true rfl) ?_
        intro p e s m below meth c ls E hP hK hD hS hl
        obtain ⟨hx, hb, hml, ho, hts, hr, hlk⟩ := id E
        have hl : lv_has ls 4 [(0, .ref aM), (1, .int (nI i)), (2, .int (nI 4)), (3, .int y)] := hl
        refine lv_aload_n hx hb d_M_ask_0 rfl (lv_at hl 0 rfl) ?_
        refine lv_iload_n hx hb d_M_ask_1 rfl (lv_at hl 1 rfl) ?_
        refine zcV (As := [.int (nI i)]) (rest := []) (ci := 11) E cy_M_isLamp kw_648 ks_4 kw_646 (c_M_isLamp l dC dI g1 g2 g3 g4 g5 g6 g7 A aM m1 m2 m3 m4 m5 m6 m7 d n (kdF kk) ht tk so lt sto ni ac bl t (nI i)) hK hP hD hS 0 rfl zC_M.1 rfl rfl hl.1 rfl (Nat.le_of_ble_eq_true rfl) ⟨Nat.le_of_ble_eq_true rfl, Nat.le_of_ble_eq_true rfl⟩ d_M_ask_2 ⟨Nat.le_refl _, Nat.le_refl _⟩ (fun H locs hP hD hS => ?_)
        rw [show zb (decide (0 ≤ nI i ∧ nI i ≤ nI n - 1)) = 1 from by rw [decide_eq_true (h1)]; rfl]
        refine lv_if_eq (tgt := 18) hx hb d_M_ask_5 (by decide) (fun h9 => absurd h9 (by decide)) (fun _ => ?_)
        refine lv_iload_n hx hb d_M_ask_8 rfl (lv_at hl 2 rfl) ?_
        refine lv_iconst (v := 0) hx hb d_M_ask_9 (by decide) ?_
        refine lv_bipush (v := 6) hx hb d_M_ask_10 (by decide) ?_
        refine zcS (As := [.int (nI 4), .int 0, .int 6]) (rest := []) E cy_M_in kw_636 kw_635 rfl (c_M_in l dC dI (t7 g1 g2 g3 g4 g5 g6 g7) A (wm g1 g2 g3 g4 g5 g6 g7 aM m1 m2 m3 m4 m5 m6 m7 d n (kdF kk) ht tk so lt sto ni ac bl t) (nI 4) 0 6) hK hP hD hS rfl hl.1 rfl (Nat.le_of_ble_eq_true rfl) ⟨Nat.le_of_ble_eq_true rfl, Nat.le_of_ble_eq_true rfl⟩ d_M_ask_12 ⟨Nat.le_refl _, Nat.le_refl _⟩ (fun H locs hP hD hS => ?_)
        rw [show zb (decide (0 ≤ nI 4 ∧ nI 4 ≤ 6)) = 1 from by rw [decide_eq_true (h2)]; rfl]
        refine lv_if_ne (tgt := 22) hx hb d_M_ask_15 (by decide) (fun _ => ?_) (fun h9 => absurd h9 (by decide))
        refine lv_aload_n hx hb d_M_ask_22 rfl (lv_at hl 0 rfl) ?_
        refine zcV (As := []) (rest := []) (ci := 11) E cy_M_act kw_653 ks_5 kw_651 (c_M_act l dC dI g1 g2 g3 g4 g5 g6 g7 A aM m1 m2 m3 m4 m5 m6 m7 d n (kdF kk) ht tk so lt sto ni ac bl t) hK hP hD hS 0 rfl zC_M.1 rfl rfl hl.1 rfl (Nat.le_of_ble_eq_true rfl) ⟨Nat.le_of_ble_eq_true rfl, Nat.le_of_ble_eq_true rfl⟩ d_M_ask_23 ⟨Nat.le_refl _, Nat.le_refl _⟩ (fun H locs hP hD hS => ?_)
        have hP : va_P (dC, dI) classes (wm g1 g2 g3 g4 g5 g6 g7 aM m1 m2 m3 m4 m5 m6 m7 d n (kdF kk) ht tk so lt sto ni (ac + 1) bl (t.1, ⟨0, by decide⟩)) H := hP
        have hD : va_D A (wm g1 g2 g3 g4 g5 g6 g7 aM m1 m2 m3 m4 m5 m6 m7 d n (kdF kk) ht tk so lt sto ni (ac + 1) bl (t.1, ⟨0, by decide⟩)) := hD
        have hP : va_P (dC, dI) classes (wm g1 g2 g3 g4 g5 g6 g7 aM m1 m2 m3 m4 m5 m6 m7 d n (kdF kk) ht tk so lt sto ni (ac + 1) bl (t0 t)) H := hP
        have hD : va_D A (wm g1 g2 g3 g4 g5 g6 g7 aM m1 m2 m3 m4 m5 m6 m7 d n (kdF kk) ht tk so lt sto ni (ac + 1) bl (t0 t)) := hD
        refine lv_iload_n hx hb d_M_ask_26 rfl (lv_at hl 2 rfl) ?_
        refine lv_iconst (v := 4) hx hb d_M_ask_27 (by decide) ?_
        refine lv_icmp_le (tgt := 43) hx hb d_M_ask_28 (by decide) (fun _ => ?_) (fun h9 => absurd (by decide) h9)
        refine lv_iload_n hx hb d_M_ask_43 rfl (lv_at hl 2 rfl) ?_
        refine lv_tableIn (off := 72) (tgt := 116) hx hb d_M_ask_44 (by decide) (by decide) (by decide) (by decide) ?_
        refine lv_aload_n hx hb d_M_ask_116 rfl (lv_at hl 0 rfl) ?_
        refine lv_iload_n hx hb d_M_ask_117 rfl (lv_at hl 1 rfl) ?_
        have hP : va_P (dC, dI) classes (wm g1 g2 g3 g4 g5 g6 g7 aM m1 m2 m3 m4 m5 m6 m7 d n (kdF kk) ht tk (upd so i ((so i, t0 t) : zS).1) lt sto ni (ac + 1) bl ((so i, t0 t) : zS).2) H := by rw [show upd so i (((so i, t0 t) : zS)).1 = so from upd_me so i]; exact hP
        have hD : va_D A (wm g1 g2 g3 g4 g5 g6 g7 aM m1 m2 m3 m4 m5 m6 m7 d n (kdF kk) ht tk (upd so i ((so i, t0 t) : zS).1) lt sto ni (ac + 1) bl ((so i, t0 t) : zS).2) := by rw [show upd so i (((so i, t0 t) : zS)).1 = so from upd_me so i]; exact hD
        refine zcV (As := [.int (nI i)]) (rest := []) (ci := 11) E cy_M_rank kw_766 ks_33 kw_764 (c_M_rank l dC dI g1 g2 g3 g4 g5 g6 g7 A aM m1 m2 m3 m4 m5 m6 m7 d n (kdF kk) ht tk so lt sto ni (ac + 1) bl i hi (so i, t0 t) (kk i) (hkk i hi0) hkd) hK hP hD hS 0 rfl zC_M.1 rfl rfl hl.1 rfl (Nat.le_of_ble_eq_true rfl) ⟨Nat.le_of_ble_eq_true rfl, Nat.le_of_ble_eq_true rfl⟩ d_M_ask_118 ⟨Nat.le_refl _, Nat.le_refl _⟩ (fun H locs hP hD hS => ?_)
        have hP : va_P (dC, dI) classes (wm g1 g2 g3 g4 g5 g6 g7 aM m1 m2 m3 m4 m5 m6 m7 d n (kdF kk) ht tk (upd so i ((rankK (kk i) (ht i) (tk i) (so i, t0 t)).2 : zS).1) lt sto ni (ac + 1) bl ((rankK (kk i) (ht i) (tk i) (so i, t0 t)).2 : zS).2) H := hP
        have hD : va_D A (wm g1 g2 g3 g4 g5 g6 g7 aM m1 m2 m3 m4 m5 m6 m7 d n (kdF kk) ht tk (upd so i ((rankK (kk i) (ht i) (tk i) (so i, t0 t)).2 : zS).1) lt sto ni (ac + 1) bl ((rankK (kk i) (ht i) (tk i) (so i, t0 t)).2 : zS).2) := hD
        refine lv_i2l (v := ((rankK (kk i) (ht i) (tk i) (so i, t0 t)).1 : Int32).toInt64) hx hb d_M_ask_121 rfl ?_
        exact zrl E hK hP hD hS d_M_ask_122
      · cases hh : hornedK (kk i)
        · have e9 : askA (d, n, kk, ht, tk, so, lt, sto, ni, ac, bl, t) (nI i) (nI 5) y = (zCAST, (d, n, kk, ht, tk, so, lt, sto, ni, ac + 1, bl, t0 t)) := by show (if _ then _ else _) = _; rw [if_pos ⟨h1, h2⟩, nI_clamp (i31 hi), if_pos ⟨by decide, hh⟩]
          rw [e9]
          refine zM_of "CoastLampsModel" rfl (by decide) (Nat.le_of_ble_eq_true rfl) ?_
          intro p e s m below meth c ls E hP hK hD hS hl
          obtain ⟨hx, hb, hml, ho, hts, hr, hlk⟩ := id E
          have hl : lv_has ls 4 [(0, .ref aM), (1, .int (nI i)), (2, .int (nI 5)), (3, .int y)] := hl
          refine lv_aload_n hx hb d_M_ask_0 rfl (lv_at hl 0 rfl) ?_
          refine lv_iload_n hx hb d_M_ask_1 rfl (lv_at hl 1 rfl) ?_
          refine zcV (As := [.int (nI i)]) (rest := []) (ci := 11) E cy_M_isLamp kw_648 ks_4 kw_646 (c_M_isLamp l dC dI g1 g2 g3 g4 g5 g6 g7 A aM m1 m2 m3 m4 m5 m6 m7 d n (kdF kk) ht tk so lt sto ni ac bl t (nI i)) hK hP hD hS 0 rfl zC_M.1 rfl rfl hl.1 rfl (Nat.le_of_ble_eq_true rfl) ⟨Nat.le_of_ble_eq_true rfl, Nat.le_of_ble_eq_true rfl⟩ d_M_ask_2 ⟨Nat.le_refl _, Nat.le_refl _⟩ (fun H locs hP hD hS => ?_)
          rw [show zb (decide (0 ≤ nI i ∧ nI i ≤ nI n - 1)) = 1 from by rw [decide_eq_true (h1)]; rfl]
          refine lv_if_eq (tgt := 18) hx hb d_M_ask_5 (by decide) (fun h9 => absurd h9 (by decide)) (fun _ => ?_)
          refine lv_iload_n hx hb d_M_ask_8 rfl (lv_at hl 2 rfl) ?_
          refine lv_iconst (v := 0) hx hb d_M_ask_9 (by decide) ?_
          refine lv_bipush (v := 6) hx hb d_M_ask_10 (by decide) ?_
          refine zcS (As := [.int (nI 5), .int 0, .int 6]) (rest := []) E cy_M_in kw_636 kw_635 rfl (c_M_in l dC dI (t7 g1 g2 g3 g4 g5 g6 g7) A (wm g1 g2 g3 g4 g5 g6 g7 aM m1 m2 m3 m4 m5 m6 m7 d n (kdF kk) ht tk so lt sto ni ac bl t) (nI 5) 0 6) hK hP hD hS rfl hl.1 rfl (Nat.le_of_ble_eq_true rfl) ⟨Nat.le_of_ble_eq_true rfl, Nat.le_of_ble_eq_true rfl⟩ d_M_ask_12 ⟨Nat.le_refl _, Nat.le_refl _⟩ (fun H locs hP hD hS => ?_)
          rw [show zb (decide (0 ≤ nI 5 ∧ nI 5 ≤ 6)) = 1 from by rw [decide_eq_true (h2)]; rfl]
          refine lv_if_ne (tgt := 22) hx hb d_M_ask_15 (by decide) (fun _ => ?_) (fun h9 => absurd h9 (by decide))
          refine lv_aload_n hx hb d_M_ask_22 rfl (lv_at hl 0 rfl) ?_
          refine zcV (As := []) (rest := []) (ci := 11) E cy_M_act kw_653 ks_5 kw_651 (c_M_act l dC dI g1 g2 g3 g4 g5 g6 g7 A aM m1 m2 m3 m4 m5 m6 m7 d n (kdF kk) ht tk so lt sto ni ac bl t) hK hP hD hS 0 rfl zC_M.1 rfl rfl hl.1 rfl (Nat.le_of_ble_eq_true rfl) ⟨Nat.le_of_ble_eq_true rfl, Nat.le_of_ble_eq_true rfl⟩ d_M_ask_23 ⟨Nat.le_refl _, Nat.le_refl _⟩ (fun H locs hP hD hS => ?_)
          have hP : va_P (dC, dI) classes (wm g1 g2 g3 g4 g5 g6 g7 aM m1 m2 m3 m4 m5 m6 m7 d n (kdF kk) ht tk so lt sto ni (ac + 1) bl (t.1, ⟨0, by decide⟩)) H := hP
          have hD : va_D A (wm g1 g2 g3 g4 g5 g6 g7 aM m1 m2 m3 m4 m5 m6 m7 d n (kdF kk) ht tk so lt sto ni (ac + 1) bl (t.1, ⟨0, by decide⟩)) := hD
          have hP : va_P (dC, dI) classes (wm g1 g2 g3 g4 g5 g6 g7 aM m1 m2 m3 m4 m5 m6 m7 d n (kdF kk) ht tk so lt sto ni (ac + 1) bl (t0 t)) H := hP
          have hD : va_D A (wm g1 g2 g3 g4 g5 g6 g7 aM m1 m2 m3 m4 m5 m6 m7 d n (kdF kk) ht tk so lt sto ni (ac + 1) bl (t0 t)) := hD
          refine lv_iload_n hx hb d_M_ask_26 rfl (lv_at hl 2 rfl) ?_
          refine lv_iconst (v := 4) hx hb d_M_ask_27 (by decide) ?_
          refine lv_icmp_le (tgt := 43) hx hb d_M_ask_28 (by decide) (fun h9 => absurd h9 (by decide)) (fun _ => ?_)
          refine lv_aload_n hx hb d_M_ask_31 rfl (lv_at hl 0 rfl) ?_
          refine lv_iload_n hx hb d_M_ask_32 rfl (lv_at hl 1 rfl) ?_
          refine zcV (As := [.int (nI i)]) (rest := []) (ci := 11) E cy_M_isHorned kw_657 ks_6 kw_655 (c_M_isHorned l dC dI g1 g2 g3 g4 g5 g6 g7 A aM m1 m2 m3 m4 m5 m6 m7 d n (kdF kk) ht tk so lt sto ni (ac + 1) bl (t0 t) i hi (kk i) (hkk i hi0) rfl) hK hP hD hS 0 rfl zC_M.1 rfl rfl hl.1 rfl (Nat.le_of_ble_eq_true rfl) ⟨Nat.le_of_ble_eq_true rfl, Nat.le_of_ble_eq_true rfl⟩ d_M_ask_33 ⟨Nat.le_refl _, Nat.le_refl _⟩ (fun H locs hP hD hS => ?_)
          rw [hh, show zb false = 0 from rfl]
          refine lv_if_ne (tgt := 43) hx hb d_M_ask_36 (by decide) (fun h9 => absurd (rfl) h9) (fun _ => ?_)
          refine lv_ldc2 hx hb ho (hts _ kw_659) d_M_ask_39 ?_
          exact zrl E hK hP hD hS d_M_ask_42
        · have e9 : askA (d, n, kk, ht, tk, so, lt, sto, ni, ac, bl, t) (nI i) (nI 5) y = ((hornK (kk i) d (ht i) (tk i) y (so i, t0 t)).1.toInt64, (d, n, kk, ht, tk, upd so i (hornK (kk i) d (ht i) (tk i) y (so i, t0 t)).2.1, lt, sto, ni, ac + 1, bl, (hornK (kk i) d (ht i) (tk i) y (so i, t0 t)).2.2)) := by show (if _ then _ else _) = _; rw [if_pos ⟨h1, h2⟩, nI_clamp (i31 hi), if_neg (fun h => by rw [hh] at h; exact absurd h.2 (by decide))]; rfl
          rw [e9]
          refine zM_of "CoastLampsModel" rfl (by decide) (Nat.le_of_ble_eq_true rfl) ?_
          intro p e s m below meth c ls E hP hK hD hS hl
          obtain ⟨hx, hb, hml, ho, hts, hr, hlk⟩ := id E
          have hl : lv_has ls 4 [(0, .ref aM), (1, .int (nI i)), (2, .int (nI 5)), (3, .int y)] := hl
          refine lv_aload_n hx hb d_M_ask_0 rfl (lv_at hl 0 rfl) ?_
          refine lv_iload_n hx hb d_M_ask_1 rfl (lv_at hl 1 rfl) ?_
          refine zcV (As := [.int (nI i)]) (rest := []) (ci := 11) E cy_M_isLamp kw_648 ks_4 kw_646 (c_M_isLamp l dC dI g1 g2 g3 g4 g5 g6 g7 A aM m1 m2 m3 m4 m5 m6 m7 d n (kdF kk) ht tk so lt sto ni ac bl t (nI i)) hK hP hD hS 0 rfl zC_M.1 rfl rfl hl.1 rfl (Nat.le_of_ble_eq_true rfl) ⟨Nat.le_of_ble_eq_true rfl, Nat.le_of_ble_eq_true rfl⟩ d_M_ask_2 ⟨Nat.le_refl _, Nat.le_refl _⟩ (fun H locs hP hD hS => ?_)
          rw [show zb (decide (0 ≤ nI i ∧ nI i ≤ nI n - 1)) = 1 from by rw [decide_eq_true (h1)]; rfl]
          refine lv_if_eq (tgt := 18) hx hb d_M_ask_5 (by decide) (fun h9 => absurd h9 (by decide)) (fun _ => ?_)
          refine lv_iload_n hx hb d_M_ask_8 rfl (lv_at hl 2 rfl) ?_
          refine lv_iconst (v := 0) hx hb d_M_ask_9 (by decide) ?_
          refine lv_bipush (v := 6) hx hb d_M_ask_10 (by decide) ?_
          refine zcS (As := [.int (nI 5), .int 0, .int 6]) (rest := []) E cy_M_in kw_636 kw_635 rfl (c_M_in l dC dI (t7 g1 g2 g3 g4 g5 g6 g7) A (wm g1 g2 g3 g4 g5 g6 g7 aM m1 m2 m3 m4 m5 m6 m7 d n (kdF kk) ht tk so lt sto ni ac bl t) (nI 5) 0 6) hK hP hD hS rfl hl.1 rfl (Nat.le_of_ble_eq_true rfl) ⟨Nat.le_of_ble_eq_true rfl, Nat.le_of_ble_eq_true rfl⟩ d_M_ask_12 ⟨Nat.le_refl _, Nat.le_refl _⟩ (fun H locs hP hD hS => ?_)
          rw [show zb (decide (0 ≤ nI 5 ∧ nI 5 ≤ 6)) = 1 from by rw [decide_eq_true (h2)]; rfl]
          refine lv_if_ne (tgt := 22) hx hb d_M_ask_15 (by decide) (fun _ => ?_) (fun h9 => absurd h9 (by decide))
          refine lv_aload_n hx hb d_M_ask_22 rfl (lv_at hl 0 rfl) ?_
          refine zcV (As := []) (rest := []) (ci := 11) E cy_M_act kw_653 ks_5 kw_651 (c_M_act l dC dI g1 g2 g3 g4 g5 g6 g7 A aM m1 m2 m3 m4 m5 m6 m7 d n (kdF kk) ht tk so lt sto ni ac bl t) hK hP hD hS 0 rfl zC_M.1 rfl rfl hl.1 rfl (Nat.le_of_ble_eq_true rfl) ⟨Nat.le_of_ble_eq_true rfl, Nat.le_of_ble_eq_true rfl⟩ d_M_ask_23 ⟨Nat.le_refl _, Nat.le_refl _⟩ (fun H locs hP hD hS => ?_)
          have hP : va_P (dC, dI) classes (wm g1 g2 g3 g4 g5 g6 g7 aM m1 m2 m3 m4 m5 m6 m7 d n (kdF kk) ht tk so lt sto ni (ac + 1) bl (t.1, ⟨0, by decide⟩)) H := hP
          have hD : va_D A (wm g1 g2 g3 g4 g5 g6 g7 aM m1 m2 m3 m4 m5 m6 m7 d n (kdF kk) ht tk so lt sto ni (ac + 1) bl (t.1, ⟨0, by decide⟩)) := hD
          have hP : va_P (dC, dI) classes (wm g1 g2 g3 g4 g5 g6 g7 aM m1 m2 m3 m4 m5 m6 m7 d n (kdF kk) ht tk so lt sto ni (ac + 1) bl (t0 t)) H := hP
          have hD : va_D A (wm g1 g2 g3 g4 g5 g6 g7 aM m1 m2 m3 m4 m5 m6 m7 d n (kdF kk) ht tk so lt sto ni (ac + 1) bl (t0 t)) := hD
          refine lv_iload_n hx hb d_M_ask_26 rfl (lv_at hl 2 rfl) ?_
          refine lv_iconst (v := 4) hx hb d_M_ask_27 (by decide) ?_
          refine lv_icmp_le (tgt := 43) hx hb d_M_ask_28 (by decide) (fun h9 => absurd h9 (by decide)) (fun _ => ?_)
          refine lv_aload_n hx hb d_M_ask_31 rfl (lv_at hl 0 rfl) ?_
          refine lv_iload_n hx hb d_M_ask_32 rfl (lv_at hl 1 rfl) ?_
          refine zcV (As := [.int (nI i)]) (rest := []) (ci := 11) E cy_M_isHorned kw_657 ks_6 kw_655 (c_M_isHorned l dC dI g1 g2 g3 g4 g5 g6 g7 A aM m1 m2 m3 m4 m5 m6 m7 d n (kdF kk) ht tk so lt sto ni (ac + 1) bl (t0 t) i hi (kk i) (hkk i hi0) rfl) hK hP hD hS 0 rfl zC_M.1 rfl rfl hl.1 rfl (Nat.le_of_ble_eq_true rfl) ⟨Nat.le_of_ble_eq_true rfl, Nat.le_of_ble_eq_true rfl⟩ d_M_ask_33 ⟨Nat.le_refl _, Nat.le_refl _⟩ (fun H locs hP hD hS => ?_)
          rw [hh, show zb true = 1 from rfl]
          refine lv_if_ne (tgt := 43) hx hb d_M_ask_36 (by decide) (fun _ => ?_) (fun h9 => absurd h9 (by decide))
          refine lv_iload_n hx hb d_M_ask_43 rfl (lv_at hl 2 rfl) ?_
          refine lv_tableIn (off := 79) (tgt := 123) hx hb d_M_ask_44 (by decide) (by decide) (by decide) (by decide) ?_
          refine lv_aload_n hx hb d_M_ask_123 rfl (lv_at hl 0 rfl) ?_
          refine lv_iload_n hx hb d_M_ask_124 rfl (lv_at hl 1 rfl) ?_
          refine lv_iload_n hx hb d_M_ask_125 rfl (lv_at hl 3 rfl) ?_
          have hP : va_P (dC, dI) classes (wm g1 g2 g3 g4 g5 g6 g7 aM m1 m2 m3 m4 m5 m6 m7 d n (kdF kk) ht tk (upd so i ((so i, t0 t) : zS).1) lt sto ni (ac + 1) bl ((so i, t0 t) : zS).2) H := by rw [show upd so i (((so i, t0 t) : zS)).1 = so from upd_me so i]; exact hP
          have hD : va_D A (wm g1 g2 g3 g4 g5 g6 g7 aM m1 m2 m3 m4 m5 m6 m7 d n (kdF kk) ht tk (upd so i ((so i, t0 t) : zS).1) lt sto ni (ac + 1) bl ((so i, t0 t) : zS).2) := by rw [show upd so i (((so i, t0 t) : zS)).1 = so from upd_me so i]; exact hD
          refine zcV (As := [.int (nI i), .int y]) (rest := []) (ci := 11) E cy_M_horn kw_790 ks_39 kw_788 (c_M_horn l dC dI g1 g2 g3 g4 g5 g6 g7 A aM m1 m2 m3 m4 m5 m6 m7 d n (kdF kk) ht tk so lt sto ni (ac + 1) bl i hi (so i, t0 t) (kk i) (hkk i hi0) hkd hh y) hK hP hD hS 0 rfl zC_M.1 rfl rfl hl.1 rfl (Nat.le_of_ble_eq_true rfl) ⟨Nat.le_of_ble_eq_true rfl, Nat.le_of_ble_eq_true rfl⟩ d_M_ask_126 ⟨Nat.le_refl _, Nat.le_refl _⟩ (fun H locs hP hD hS => ?_)
          have hP : va_P (dC, dI) classes (wm g1 g2 g3 g4 g5 g6 g7 aM m1 m2 m3 m4 m5 m6 m7 d n (kdF kk) ht tk (upd so i ((hornK (kk i) d (ht i) (tk i) y (so i, t0 t)).2 : zS).1) lt sto ni (ac + 1) bl ((hornK (kk i) d (ht i) (tk i) y (so i, t0 t)).2 : zS).2) H := hP
          have hD : va_D A (wm g1 g2 g3 g4 g5 g6 g7 aM m1 m2 m3 m4 m5 m6 m7 d n (kdF kk) ht tk (upd so i ((hornK (kk i) d (ht i) (tk i) y (so i, t0 t)).2 : zS).1) lt sto ni (ac + 1) bl ((hornK (kk i) d (ht i) (tk i) y (so i, t0 t)).2 : zS).2) := hD
          refine lv_i2l (v := ((hornK (kk i) d (ht i) (tk i) y (so i, t0 t)).1 : Int32).toInt64) hx hb d_M_ask_129 rfl ?_
          exact zrl E hK hP hD hS d_M_ask_130
      · cases hh : hornedK (kk i)
        · have e9 : askA (d, n, kk, ht, tk, so, lt, sto, ni, ac, bl, t) (nI i) (nI 6) y = (zCAST, (d, n, kk, ht, tk, so, lt, sto, ni, ac + 1, bl, t0 t)) := by show (if _ then _ else _) = _; rw [if_pos ⟨h1, h2⟩, nI_clamp (i31 hi), if_pos ⟨by decide, hh⟩]
          rw [e9]
          refine zM_of "CoastLampsModel" rfl (by decide) (Nat.le_of_ble_eq_true rfl) ?_
          intro p e s m below meth c ls E hP hK hD hS hl
          obtain ⟨hx, hb, hml, ho, hts, hr, hlk⟩ := id E
          have hl : lv_has ls 4 [(0, .ref aM), (1, .int (nI i)), (2, .int (nI 6)), (3, .int y)] := hl
          refine lv_aload_n hx hb d_M_ask_0 rfl (lv_at hl 0 rfl) ?_
          refine lv_iload_n hx hb d_M_ask_1 rfl (lv_at hl 1 rfl) ?_
          refine zcV (As := [.int (nI i)]) (rest := []) (ci := 11) E cy_M_isLamp kw_648 ks_4 kw_646 (c_M_isLamp l dC dI g1 g2 g3 g4 g5 g6 g7 A aM m1 m2 m3 m4 m5 m6 m7 d n (kdF kk) ht tk so lt sto ni ac bl t (nI i)) hK hP hD hS 0 rfl zC_M.1 rfl rfl hl.1 rfl (Nat.le_of_ble_eq_true rfl) ⟨Nat.le_of_ble_eq_true rfl, Nat.le_of_ble_eq_true rfl⟩ d_M_ask_2 ⟨Nat.le_refl _, Nat.le_refl _⟩ (fun H locs hP hD hS => ?_)
          rw [show zb (decide (0 ≤ nI i ∧ nI i ≤ nI n - 1)) = 1 from by rw [decide_eq_true (h1)]; rfl]
          refine lv_if_eq (tgt := 18) hx hb d_M_ask_5 (by decide) (fun h9 => absurd h9 (by decide)) (fun _ => ?_)
          refine lv_iload_n hx hb d_M_ask_8 rfl (lv_at hl 2 rfl) ?_
          refine lv_iconst (v := 0) hx hb d_M_ask_9 (by decide) ?_
          refine lv_bipush (v := 6) hx hb d_M_ask_10 (by decide) ?_
          refine zcS (As := [.int (nI 6), .int 0, .int 6]) (rest := []) E cy_M_in kw_636 kw_635 rfl (c_M_in l dC dI (t7 g1 g2 g3 g4 g5 g6 g7) A (wm g1 g2 g3 g4 g5 g6 g7 aM m1 m2 m3 m4 m5 m6 m7 d n (kdF kk) ht tk so lt sto ni ac bl t) (nI 6) 0 6) hK hP hD hS rfl hl.1 rfl (Nat.le_of_ble_eq_true rfl) ⟨Nat.le_of_ble_eq_true rfl, Nat.le_of_ble_eq_true rfl⟩ d_M_ask_12 ⟨Nat.le_refl _, Nat.le_refl _⟩ (fun H locs hP hD hS => ?_)
          rw [show zb (decide (0 ≤ nI 6 ∧ nI 6 ≤ 6)) = 1 from by rw [decide_eq_true (h2)]; rfl]
          refine lv_if_ne (tgt := 22) hx hb d_M_ask_15 (by decide) (fun _ => ?_) (fun h9 => absurd h9 (by decide))
          refine lv_aload_n hx hb d_M_ask_22 rfl (lv_at hl 0 rfl) ?_
          refine zcV (As := []) (rest := []) (ci := 11) E cy_M_act kw_653 ks_5 kw_651 (c_M_act l dC dI g1 g2 g3 g4 g5 g6 g7 A aM m1 m2 m3 m4 m5 m6 m7 d n (kdF kk) ht tk so lt sto ni ac bl t) hK hP hD hS 0 rfl zC_M.1 rfl rfl hl.1 rfl (Nat.le_of_ble_eq_true rfl) ⟨Nat.le_of_ble_eq_true rfl, Nat.le_of_ble_eq_true rfl⟩ d_M_ask_23 ⟨Nat.le_refl _, Nat.le_refl _⟩ (fun H locs hP hD hS => ?_)
          have hP : va_P (dC, dI) classes (wm g1 g2 g3 g4 g5 g6 g7 aM m1 m2 m3 m4 m5 m6 m7 d n (kdF kk) ht tk so lt sto ni (ac + 1) bl (t.1, ⟨0, by decide⟩)) H := hP
          have hD : va_D A (wm g1 g2 g3 g4 g5 g6 g7 aM m1 m2 m3 m4 m5 m6 m7 d n (kdF kk) ht tk so lt sto ni (ac + 1) bl (t.1, ⟨0, by decide⟩)) := hD
          have hP : va_P (dC, dI) classes (wm g1 g2 g3 g4 g5 g6 g7 aM m1 m2 m3 m4 m5 m6 m7 d n (kdF kk) ht tk so lt sto ni (ac + 1) bl (t0 t)) H := hP
          have hD : va_D A (wm g1 g2 g3 g4 g5 g6 g7 aM m1 m2 m3 m4 m5 m6 m7 d n (kdF kk) ht tk so lt sto ni (ac + 1) bl (t0 t)) := hD
          refine lv_iload_n hx hb d_M_ask_26 rfl (lv_at hl 2 rfl) ?_
          refine lv_iconst (v := 4) hx hb d_M_ask_27 (by decide) ?_
          refine lv_icmp_le (tgt := 43) hx hb d_M_ask_28 (by decide) (fun h9 => absurd h9 (by decide)) (fun _ => ?_)
          refine lv_aload_n hx hb d_M_ask_31 rfl (lv_at hl 0 rfl) ?_
          refine lv_iload_n hx hb d_M_ask_32 rfl (lv_at hl 1 rfl) ?_
          refine zcV (As := [.int (nI i)]) (rest := []) (ci := 11) E cy_M_isHorned kw_657 ks_6 kw_655 (c_M_isHorned l dC dI g1 g2 g3 g4 g5 g6 g7 A aM m1 m2 m3 m4 m5 m6 m7 d n (kdF kk) ht tk so lt sto ni (ac + 1) bl (t0 t) i hi (kk i) (hkk i hi0) rfl) hK hP hD hS 0 rfl zC_M.1 rfl rfl hl.1 rfl (Nat.le_of_ble_eq_true rfl) ⟨Nat.le_of_ble_eq_true rfl, Nat.le_of_ble_eq_true rfl⟩ d_M_ask_33 ⟨Nat.le_refl _, Nat.le_refl _⟩ (fun H locs hP hD hS => ?_)
          rw [hh, show zb false = 0 from rfl]
          refine lv_if_ne (tgt := 43) hx hb d_M_ask_36 (by decide) (fun h9 => absurd (rfl) h9) (fun _ => ?_)
          refine lv_ldc2 hx hb ho (hts _ kw_659) d_M_ask_39 ?_
          exact zrl E hK hP hD hS d_M_ask_42
        · have e9 : askA (d, n, kk, ht, tk, so, lt, sto, ni, ac, bl, t) (nI i) (nI 6) y = ((toneK (kk i) d (ht i) (tk i) (so i, t0 t)).1.toInt64, (d, n, kk, ht, tk, upd so i (toneK (kk i) d (ht i) (tk i) (so i, t0 t)).2.1, lt, sto, ni, ac + 1, bl, (toneK (kk i) d (ht i) (tk i) (so i, t0 t)).2.2)) := by show (if _ then _ else _) = _; rw [if_pos ⟨h1, h2⟩, nI_clamp (i31 hi), if_neg (fun h => by rw [hh] at h; exact absurd h.2 (by decide))]; rfl
          rw [e9]
          refine zM_of "CoastLampsModel" rfl (by decide) (Nat.le_of_ble_eq_true rfl) ?_
          intro p e s m below meth c ls E hP hK hD hS hl
          obtain ⟨hx, hb, hml, ho, hts, hr, hlk⟩ := id E
          have hl : lv_has ls 4 [(0, .ref aM), (1, .int (nI i)), (2, .int (nI 6)), (3, .int y)] := hl
          refine lv_aload_n hx hb d_M_ask_0 rfl (lv_at hl 0 rfl) ?_
          refine lv_iload_n hx hb d_M_ask_1 rfl (lv_at hl 1 rfl) ?_
          refine zcV (As := [.int (nI i)]) (rest := []) (ci := 11) E cy_M_isLamp kw_648 ks_4 kw_646 (c_M_isLamp l dC dI g1 g2 g3 g4 g5 g6 g7 A aM m1 m2 m3 m4 m5 m6 m7 d n (kdF kk) ht tk so lt sto ni ac bl t (nI i)) hK hP hD hS 0 rfl zC_M.1 rfl rfl hl.1 rfl (Nat.le_of_ble_eq_true rfl) ⟨Nat.le_of_ble_eq_true rfl, Nat.le_of_ble_eq_true rfl⟩ d_M_ask_2 ⟨Nat.le_refl _, Nat.le_refl _⟩ (fun H locs hP hD hS => ?_)
          rw [show zb (decide (0 ≤ nI i ∧ nI i ≤ nI n - 1)) = 1 from by rw [decide_eq_true (h1)]; rfl]
          refine lv_if_eq (tgt := 18) hx hb d_M_ask_5 (by decide) (fun h9 => absurd h9 (by decide)) (fun _ => ?_)
          refine lv_iload_n hx hb d_M_ask_8 rfl (lv_at hl 2 rfl) ?_
          refine lv_iconst (v := 0) hx hb d_M_ask_9 (by decide) ?_
          refine lv_bipush (v := 6) hx hb d_M_ask_10 (by decide) ?_
          refine zcS (As := [.int (nI 6), .int 0, .int 6]) (rest := []) E cy_M_in kw_636 kw_635 rfl (c_M_in l dC dI (t7 g1 g2 g3 g4 g5 g6 g7) A (wm g1 g2 g3 g4 g5 g6 g7 aM m1 m2 m3 m4 m5 m6 m7 d n (kdF kk) ht tk so lt sto ni ac bl t) (nI 6) 0 6) hK hP hD hS rfl hl.1 rfl (Nat.le_of_ble_eq_true rfl) ⟨Nat.le_of_ble_eq_true rfl, Nat.le_of_ble_eq_true rfl⟩ d_M_ask_12 ⟨Nat.le_refl _, Nat.le_refl _⟩ (fun H locs hP hD hS => ?_)
          rw [show zb (decide (0 ≤ nI 6 ∧ nI 6 ≤ 6)) = 1 from by rw [decide_eq_true (h2)]; rfl]
          refine lv_if_ne (tgt := 22) hx hb d_M_ask_15 (by decide) (fun _ => ?_) (fun h9 => absurd h9 (by decide))
          refine lv_aload_n hx hb d_M_ask_22 rfl (lv_at hl 0 rfl) ?_
          refine zcV (As := []) (rest := []) (ci := 11) E cy_M_act kw_653 ks_5 kw_651 (c_M_act l dC dI g1 g2 g3 g4 g5 g6 g7 A aM m1 m2 m3 m4 m5 m6 m7 d n (kdF kk) ht tk so lt sto ni ac bl t) hK hP hD hS 0 rfl zC_M.1 rfl rfl hl.1 rfl (Nat.le_of_ble_eq_true rfl) ⟨Nat.le_of_ble_eq_true rfl, Nat.le_of_ble_eq_true rfl⟩ d_M_ask_23 ⟨Nat.le_refl _, Nat.le_refl _⟩ (fun H locs hP hD hS => ?_)
          have hP : va_P (dC, dI) classes (wm g1 g2 g3 g4 g5 g6 g7 aM m1 m2 m3 m4 m5 m6 m7 d n (kdF kk) ht tk so lt sto ni (ac + 1) bl (t.1, ⟨0, by decide⟩)) H := hP
          have hD : va_D A (wm g1 g2 g3 g4 g5 g6 g7 aM m1 m2 m3 m4 m5 m6 m7 d n (kdF kk) ht tk so lt sto ni (ac + 1) bl (t.1, ⟨0, by decide⟩)) := hD
          have hP : va_P (dC, dI) classes (wm g1 g2 g3 g4 g5 g6 g7 aM m1 m2 m3 m4 m5 m6 m7 d n (kdF kk) ht tk so lt sto ni (ac + 1) bl (t0 t)) H := hP
          have hD : va_D A (wm g1 g2 g3 g4 g5 g6 g7 aM m1 m2 m3 m4 m5 m6 m7 d n (kdF kk) ht tk so lt sto ni (ac + 1) bl (t0 t)) := hD
          refine lv_iload_n hx hb d_M_ask_26 rfl (lv_at hl 2 rfl) ?_
          refine lv_iconst (v := 4) hx hb d_M_ask_27 (by decide) ?_
          refine lv_icmp_le (tgt := 43) hx hb d_M_ask_28 (by decide) (fun h9 => absurd h9 (by decide)) (fun _ => ?_)
          refine lv_aload_n hx hb d_M_ask_31 rfl (lv_at hl 0 rfl) ?_
          refine lv_iload_n hx hb d_M_ask_32 rfl (lv_at hl 1 rfl) ?_
          refine zcV (As := [.int (nI i)]) (rest := []) (ci := 11) E cy_M_isHorned kw_657 ks_6 kw_655 (c_M_isHorned l dC dI g1 g2 g3 g4 g5 g6 g7 A aM m1 m2 m3 m4 m5 m6 m7 d n (kdF kk) ht tk so lt sto ni (ac + 1) bl (t0 t) i hi (kk i) (hkk i hi0) rfl) hK hP hD hS 0 rfl zC_M.1 rfl rfl hl.1 rfl (Nat.le_of_ble_eq_true rfl) ⟨Nat.le_of_ble_eq_true rfl, Nat.le_of_ble_eq_true rfl⟩ d_M_ask_33 ⟨Nat.le_refl _, Nat.le_refl _⟩ (fun H locs hP hD hS => ?_)
          rw [hh, show zb true = 1 from rfl]
          refine lv_if_ne (tgt := 43) hx hb d_M_ask_36 (by decide) (fun _ => ?_) (fun h9 => absurd h9 (by decide))
          refine lv_iload_n hx hb d_M_ask_43 rfl (lv_at hl 2 rfl) ?_
          refine lv_tableOut (tgt := 131) hx hb d_M_ask_44 (by decide) (by decide) ?_
          refine lv_aload_n hx hb d_M_ask_131 rfl (lv_at hl 0 rfl) ?_
          refine lv_iload_n hx hb d_M_ask_132 rfl (lv_at hl 1 rfl) ?_
          have hP : va_P (dC, dI) classes (wm g1 g2 g3 g4 g5 g6 g7 aM m1 m2 m3 m4 m5 m6 m7 d n (kdF kk) ht tk (upd so i ((so i, t0 t) : zS).1) lt sto ni (ac + 1) bl ((so i, t0 t) : zS).2) H := by rw [show upd so i (((so i, t0 t) : zS)).1 = so from upd_me so i]; exact hP
          have hD : va_D A (wm g1 g2 g3 g4 g5 g6 g7 aM m1 m2 m3 m4 m5 m6 m7 d n (kdF kk) ht tk (upd so i ((so i, t0 t) : zS).1) lt sto ni (ac + 1) bl ((so i, t0 t) : zS).2) := by rw [show upd so i (((so i, t0 t) : zS)).1 = so from upd_me so i]; exact hD
          refine zcV (As := [.int (nI i)]) (rest := []) (ci := 11) E cy_M_tone kw_794 ks_40 kw_792 (c_M_tone l dC dI g1 g2 g3 g4 g5 g6 g7 A aM m1 m2 m3 m4 m5 m6 m7 d n (kdF kk) ht tk so lt sto ni (ac + 1) bl i hi (so i, t0 t) (kk i) (hkk i hi0) hkd hh) hK hP hD hS 0 rfl zC_M.1 rfl rfl hl.1 rfl (Nat.le_of_ble_eq_true rfl) ⟨Nat.le_of_ble_eq_true rfl, Nat.le_of_ble_eq_true rfl⟩ d_M_ask_133 ⟨Nat.le_refl _, Nat.le_refl _⟩ (fun H locs hP hD hS => ?_)
          have hP : va_P (dC, dI) classes (wm g1 g2 g3 g4 g5 g6 g7 aM m1 m2 m3 m4 m5 m6 m7 d n (kdF kk) ht tk (upd so i ((toneK (kk i) d (ht i) (tk i) (so i, t0 t)).2 : zS).1) lt sto ni (ac + 1) bl ((toneK (kk i) d (ht i) (tk i) (so i, t0 t)).2 : zS).2) H := hP
          have hD : va_D A (wm g1 g2 g3 g4 g5 g6 g7 aM m1 m2 m3 m4 m5 m6 m7 d n (kdF kk) ht tk (upd so i ((toneK (kk i) d (ht i) (tk i) (so i, t0 t)).2 : zS).1) lt sto ni (ac + 1) bl ((toneK (kk i) d (ht i) (tk i) (so i, t0 t)).2 : zS).2) := hD
          refine lv_i2l (v := ((toneK (kk i) d (ht i) (tk i) (so i, t0 t)).1 : Int32).toInt64) hx hb d_M_ask_136 rfl ?_
          exact zrl E hK hP hD hS d_M_ask_137
    · have e9 : askA (d, n, kk, ht, tk, so, lt, sto, ni, ac, bl, t) x mb y = (zNONE, (d, n, kk, ht, tk, so, lt, sto, ni, ac, bl, t)) := by show (if _ then _ else _) = _; rw [if_neg (fun h => h2 h.2)]
      rw [e9]
      refine zM_of "CoastLampsModel" rfl (by decide) (Nat.le_of_ble_eq_true rfl) ?_
      intro p e s m below meth c ls E hP hK hD hS hl
      obtain ⟨hx, hb, hml, ho, hts, hr, hlk⟩ := id E
      have hl : lv_has ls 4 [(0, .ref aM), (1, .int x), (2, .int mb), (3, .int y)] := hl
      refine lv_aload_n hx hb d_M_ask_0 rfl (lv_at hl 0 rfl) ?_
      refine lv_iload_n hx hb d_M_ask_1 rfl (lv_at hl 1 rfl) ?_
      refine zcV (As := [.int x]) (rest := []) (ci := 11) E cy_M_isLamp kw_648 ks_4 kw_646 (c_M_isLamp l dC dI g1 g2 g3 g4 g5 g6 g7 A aM m1 m2 m3 m4 m5 m6 m7 d n (kdF kk) ht tk so lt sto ni ac bl t x) hK hP hD hS 0 rfl zC_M.1 rfl rfl hl.1 rfl (Nat.le_of_ble_eq_true rfl) ⟨Nat.le_of_ble_eq_true rfl, Nat.le_of_ble_eq_true rfl⟩ d_M_ask_2 ⟨Nat.le_refl _, Nat.le_refl _⟩ (fun H locs hP hD hS => ?_)
      rw [show zb (decide (0 ≤ x ∧ x ≤ nI n - 1)) = 1 from by rw [decide_eq_true (h1)]; rfl]
      refine lv_if_eq (tgt := 18) hx hb d_M_ask_5 (by decide) (fun h9 => absurd h9 (by decide)) (fun _ => ?_)
      refine lv_iload_n hx hb d_M_ask_8 rfl (lv_at hl 2 rfl) ?_
      refine lv_iconst (v := 0) hx hb d_M_ask_9 (by decide) ?_
      refine lv_bipush (v := 6) hx hb d_M_ask_10 (by decide) ?_
      refine zcS (As := [.int mb, .int 0, .int 6]) (rest := []) E cy_M_in kw_636 kw_635 rfl (c_M_in l dC dI (t7 g1 g2 g3 g4 g5 g6 g7) A (wm g1 g2 g3 g4 g5 g6 g7 aM m1 m2 m3 m4 m5 m6 m7 d n (kdF kk) ht tk so lt sto ni ac bl t) mb 0 6) hK hP hD hS rfl hl.1 rfl (Nat.le_of_ble_eq_true rfl) ⟨Nat.le_of_ble_eq_true rfl, Nat.le_of_ble_eq_true rfl⟩ d_M_ask_12 ⟨Nat.le_refl _, Nat.le_refl _⟩ (fun H locs hP hD hS => ?_)
      rw [show zb (decide (0 ≤ mb ∧ mb ≤ 6)) = 0 from by rw [decide_eq_false (h2)]; rfl]
      refine lv_if_ne (tgt := 22) hx hb d_M_ask_15 (by decide) (fun h9 => absurd (rfl) h9) (fun _ => ?_)
      refine lv_ldc2 hx hb ho (hts _ kw_650) d_M_ask_18 ?_
      exact zrl E hK hP hD hS d_M_ask_21
  · have e9 : askA (d, n, kk, ht, tk, so, lt, sto, ni, ac, bl, t) x mb y = (zNONE, (d, n, kk, ht, tk, so, lt, sto, ni, ac, bl, t)) := by show (if _ then _ else _) = _; rw [if_neg (fun h => h1 h.1)]
    rw [e9]
    refine zM_of "CoastLampsModel" rfl (by decide) (Nat.le_of_ble_eq_true rfl) ?_
    intro p e s m below meth c ls E hP hK hD hS hl
    obtain ⟨hx, hb, hml, ho, hts, hr, hlk⟩ := id E
    have hl : lv_has ls 4 [(0, .ref aM), (1, .int x), (2, .int mb), (3, .int y)] := hl
    refine lv_aload_n hx hb d_M_ask_0 rfl (lv_at hl 0 rfl) ?_
    refine lv_iload_n hx hb d_M_ask_1 rfl (lv_at hl 1 rfl) ?_
    refine zcV (As := [.int x]) (rest := []) (ci := 11) E cy_M_isLamp kw_648 ks_4 kw_646 (c_M_isLamp l dC dI g1 g2 g3 g4 g5 g6 g7 A aM m1 m2 m3 m4 m5 m6 m7 d n (kdF kk) ht tk so lt sto ni ac bl t x) hK hP hD hS 0 rfl zC_M.1 rfl rfl hl.1 rfl (Nat.le_of_ble_eq_true rfl) ⟨Nat.le_of_ble_eq_true rfl, Nat.le_of_ble_eq_true rfl⟩ d_M_ask_2 ⟨Nat.le_refl _, Nat.le_refl _⟩ (fun H locs hP hD hS => ?_)
    rw [show zb (decide (0 ≤ x ∧ x ≤ nI n - 1)) = 0 from by rw [decide_eq_false (h1)]; rfl]
    refine lv_if_eq (tgt := 18) hx hb d_M_ask_5 (by decide) (fun _ => ?_) (fun h9 => absurd (rfl) h9)
    refine lv_ldc2 hx hb ho (hts _ kw_650) d_M_ask_18 ?_
    exact zrl E hK hP hD hS d_M_ask_21
