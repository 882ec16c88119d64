set_option maxHeartbeats 1000000 in
set_option maxRecDepth 100000 in
theorem c_X_ask (l : Launch) (dC : Nat → ClassId) (dI : Nat → Nat → Nat) (c1 c2 c3 : ClassId) (A : Nat → Prop) (aX aC aD aE aA : Nat) (ad : Nat → Nat) (d : Nat → Int32) (n : Nat) (kk : Nat → Nat) (ht tk so lt : Nat → Int32) (sto : Int64) (ni ac bl : Int32) (t : zT) (hI : zInv (d, n, kk, ht, tk, so, lt, sto, ni, ac, bl, t)) (x mb y : Int32) : zM l y_X_ask b_X_ask 5 (some (FieldType.long)) 7 160 [.ref aX, .int x, .int mb, .int y] (dC, dI) (t3 c1 c2 c3) A (xW c1 c2 c3 aX aC aD aE aA ad (d, n, kk, ht, tk, so, lt, sto, ni, ac, bl, t)) (xW c1 c2 c3 aX aC aD aE aA ad (askA (d, n, kk, ht, tk, so, lt, sto, ni, ac, bl, t) x mb y).2) (some (.long (askA (d, n, kk, ht, tk, so, lt, sto, ni, ac, bl, t) x mb y).1)) := by
  obtain ⟨hn, hkk, hz⟩ : n ≤ 60 ∧ (∀ i, i < n → kk i < 9) ∧ ∀ i, n ≤ i → tk i = 0 ∧ so i = 0 ∧ lt i = 0 := hI
  by_cases h1 : 0 ≤ x ∧ x ≤ nI n - 1
  · obtain ⟨i, hi0, rfl⟩ := isL_of (Nat.le_trans hn (by decide)) h1
    have hi : i < 60 := Nat.lt_of_lt_of_le hi0 hn
    by_cases h2 : 0 ≤ mb ∧ mb ≤ 6
    · obtain ⟨q, hq, rfl⟩ := in_of (q := 6) (by decide) (by decide) h2
      rcases (show q = 0 ∨ q = 1 ∨ q = 2 ∨ q = 3 ∨ q = 4 ∨ q = 5 ∨ q = 6 by omega) with rfl | rfl | rfl | rfl | rfl | rfl | rfl
      · have e9 : askA (d, n, kk, ht, tk, so, lt, sto, ni, ac, bl, t) (nI i) (nI 0) y = ((burnK (kk i) d y (so i, t0 t)).1.toInt64, (d, n, kk, ht, tk, upd so i (burnK (kk i) d y (so i, t0 t)).2.1, lt, sto, ni, ac + 1, bl, (burnK (kk i) d y (so i, t0 t)).2.2)) := by show (if _ then _ else _) = _; rw [if_pos ⟨h1, h2⟩, nI_clamp (i31 hi), if_neg (fun h => absurd h.1 (by decide))]; rfl
        rw [e9]
        refine zM_of "CoastLamps" rfl (by decide) (Nat.le_of_ble_eq_true rfl) ?_
        intro p e s m below meth c ls E hP hK hD hS hl
        obtain ⟨hx, hb, hml, ho, hts, hr, hlk⟩ := id E
        have hl : lv_has ls 5 [(0, .ref aX), (1, .int (nI i)), (2, .int (nI 0)), (3, .int y)] := hl
        refine lv_aload_n hx hb d_X_ask_0 rfl (lv_at hl 0 rfl) ?_
        refine lv_iload_n hx hb d_X_ask_1 rfl (lv_at hl 1 rfl) ?_
        refine zcV (As := [.int (nI i)]) (rest := []) (ci := 10) E cy_X_lampAt kw_257 ks_1 kw_255 (c_X_lampAt_t l dC dI c1 c2 c3 A aX aC aD aE aA ad d n kk ht tk so lt sto ni ac bl t hn i hi0) hK hP hD hS 3 rfl zC_X.1 rfl rfl hl.1 rfl (Nat.le_of_ble_eq_true rfl) ⟨Nat.le_of_ble_eq_true rfl, Nat.le_of_ble_eq_true rfl⟩ d_X_ask_2 ⟨Nat.le_refl _, Nat.le_refl _⟩ (fun H locs hP hD hS => ?_)
        refine lv_astore (lv' := [(4, .ref (ad i)), (0, .ref aX), (1, .int (nI i)), (2, .int (nI 0)), (3, .int y)]) hx hb d_X_ask_5 hl (by decide) rfl (fun ls hl => ?_)
        refine lv_aload hx hb d_X_ask_7 (lv_at hl 0 rfl) ?_
        refine lv_ifnull hx hb d_X_ask_9 ?_
        refine lv_iload_n hx hb d_X_ask_12 rfl (lv_at hl 3 rfl) ?_
        refine lv_iconst (v := 0) hx hb d_X_ask_13 (by decide) ?_
        refine lv_bipush (v := 6) hx hb d_X_ask_14 (by decide) ?_
        refine zcS (As := [.int (nI 0), .int 0, .int 6]) (rest := []) E cy_X_within kw_70 kw_69 rfl (c_X_within l dC dI (t3 c1 c2 c3) A (wx c1 c2 c3 aX aC aD aE aA ad d n kk ht tk so lt sto ni ac bl t) (nI 0) 0 6) hK hP hD hS rfl hl.1 rfl (Nat.le_of_ble_eq_true rfl) ⟨Nat.le_of_ble_eq_true rfl, Nat.le_of_ble_eq_true rfl⟩ d_X_ask_16 ⟨Nat.le_refl _, Nat.le_refl _⟩ (fun H locs hP hD hS => ?_)
        rw [show zb (decide (0 ≤ nI 0 ∧ nI 0 ≤ 6)) = 1 from by rw [decide_eq_true (h2)]; rfl]
        refine lv_if_ne (tgt := 26) hx hb d_X_ask_19 (by decide) (fun _ => ?_) (fun h9 => absurd h9 (by decide))
        refine lv_aload_n hx hb d_X_ask_26 rfl (lv_at hl 1 rfl) ?_
        refine zcV (As := []) (rest := []) (ci := 10) E cy_X_beginAct kw_262 ks_2 kw_260 (c_X_beginAct l dC dI c1 c2 c3 A aX aC aD aE aA ad d n kk ht tk so lt sto ni ac bl t) hK hP hD hS 3 rfl zC_X.1 rfl rfl hl.1 rfl (Nat.le_of_ble_eq_true rfl) ⟨Nat.le_of_ble_eq_true rfl, Nat.le_of_ble_eq_true rfl⟩ d_X_ask_27 ⟨Nat.le_refl _, Nat.le_refl _⟩ (fun H locs hP hD hS => ?_)
        have hP : va_P (dC, dI) classes (wx c1 c2 c3 aX aC aD aE aA ad d n kk ht tk so lt sto ni (ac + 1) bl (t0 t)) H := hP
        have hD : va_D A (wx c1 c2 c3 aX aC aD aE aA ad d n kk ht tk so lt sto ni (ac + 1) bl (t0 t)) := hD
        refine lv_iload_n hx hb d_X_ask_30 rfl (lv_at hl 3 rfl) ?_
        refine lv_iconst (v := 5) hx hb d_X_ask_31 (by decide) ?_
        refine lv_icmp_lt (tgt := 47) hx hb d_X_ask_32 (by decide) (fun _ => ?_) (fun h9 => absurd (by decide) h9)
        refine lv_iload_n hx hb d_X_ask_47 rfl (lv_at hl 3 rfl) ?_
        refine lv_tableIn (off := 40) (tgt := 88) hx hb d_X_ask_48 (by decide) (by decide) (by decide) (by decide) ?_
        refine lv_aload hx hb d_X_ask_88 (lv_at hl 0 rfl) ?_
        refine lv_iload_n hx hb d_X_ask_90 rfl (lv_at hl 4 rfl) ?_
        have hP : va_P (dC, dI) classes (wl c1 c2 aC aD aE (ad i) (kk i) d (nI (kk i + 1)) (ht i) (tk i) (lt i) (wxR c3 aX aC aA ad n kk ht tk so lt sto ni (ac + 1) bl) (i + 2) (so i, t0 t)) H := by rw [x_fo]; exact hP
        have hD : va_D A (wl c1 c2 aC aD aE (ad i) (kk i) d (nI (kk i + 1)) (ht i) (tk i) (lt i) (wxR c3 aX aC aA ad n kk ht tk so lt sto ni (ac + 1) bl) (i + 2) (so i, t0 t)) := by rw [x_fo]; exact hD
        refine dv_burn (x := y) (st := []) E (hkk i hi0) (x_len hi0) kw_286 hK hP hD hS hl.1 (Nat.le_of_ble_eq_true rfl) ⟨Nat.le_of_ble_eq_true rfl, Nat.le_of_ble_eq_true rfl⟩ d_X_ask_91 ⟨Nat.le_refl _, Nat.le_refl _⟩ (fun H locs hP hD hS => ?_)
        rw [x_un, upd_me tk i, upd_me lt i] at hP hD
        have hP : va_P (dC, dI) classes (wx c1 c2 c3 aX aC aD aE aA ad d n kk ht tk (upd so i (burnK (kk i) d y (so i, t0 t)).2.1) lt sto ni (ac + 1) bl ((burnK (kk i) d y (so i, t0 t)).2.2)) H := hP
        have hD : va_D A (wx c1 c2 c3 aX aC aD aE aA ad d n kk ht tk (upd so i (burnK (kk i) d y (so i, t0 t)).2.1) lt sto ni (ac + 1) bl ((burnK (kk i) d y (so i, t0 t)).2.2)) := hD
        refine lv_i2l (v := ((burnK (kk i) d y (so i, t0 t)).1 : Int32).toInt64) hx hb d_X_ask_94 rfl ?_
        exact zrl E hK hP hD hS d_X_ask_95
      · have e9 : askA (d, n, kk, ht, tk, so, lt, sto, ni, ac, bl, t) (nI i) (nI 1) y = ((reachK (kk i) d (ht i) y (so i, t0 t)).1.toInt64, (d, n, kk, ht, tk, upd so i (reachK (kk i) d (ht i) y (so i, t0 t)).2.1, lt, sto, ni, ac + 1, bl, (reachK (kk i) d (ht i) y (so i, t0 t)).2.2)) := by show (if _ then _ else _) = _; rw [if_pos ⟨h1, h2⟩, nI_clamp (i31 hi), if_neg (fun h => absurd h.1 (by decide))]; rfl
        rw [e9]
        refine zM_of "CoastLamps" rfl (by decide) (Nat.le_of_ble_eq_true rfl) ?_
        intro p e s m below meth c ls E hP hK hD hS hl
        obtain ⟨hx, hb, hml, ho, hts, hr, hlk⟩ := id E
        have hl : lv_has ls 5 [(0, .ref aX), (1, .int (nI i)), (2, .int (nI 1)), (3, .int y)] := hl
        refine lv_aload_n hx hb d_X_ask_0 rfl (lv_at hl 0 rfl) ?_
        refine lv_iload_n hx hb d_X_ask_1 rfl (lv_at hl 1 rfl) ?_
        refine zcV (As := [.int (nI i)]) (rest := []) (ci := 10) E cy_X_lampAt kw_257 ks_1 kw_255 (c_X_lampAt_t l dC dI c1 c2 c3 A aX aC aD aE aA ad d n kk ht tk so lt sto ni ac bl t hn i hi0) hK hP hD hS 3 rfl zC_X.1 rfl rfl hl.1 rfl (Nat.le_of_ble_eq_true rfl) ⟨Nat.le_of_ble_eq_true rfl, Nat.le_of_ble_eq_true rfl⟩ d_X_ask_2 ⟨Nat.le_refl _, Nat.le_refl _⟩ (fun H locs hP hD hS => ?_)
        refine lv_astore (lv' := [(4, .ref (ad i)), (0, .ref aX), (1, .int (nI i)), (2, .int (nI 1)), (3, .int y)]) hx hb d_X_ask_5 hl (by decide) rfl (fun ls hl => ?_)
        refine lv_aload hx hb d_X_ask_7 (lv_at hl 0 rfl) ?_
        refine lv_ifnull hx hb d_X_ask_9 ?_
        refine lv_iload_n hx hb d_X_ask_12 rfl (lv_at hl 3 rfl) ?_
        refine lv_iconst (v := 0) hx hb d_X_ask_13 (by decide) ?_
        refine lv_bipush (v := 6) hx hb d_X_ask_14 (by decide) ?_
        refine zcS (As := [.int (nI 1), .int 0, .int 6]) (rest := []) E cy_X_within kw_70 kw_69 rfl (c_X_within l dC dI (t3 c1 c2 c3) A (wx c1 c2 c3 aX aC aD aE aA ad d n kk ht tk so lt sto ni ac bl t) (nI 1) 0 6) hK hP hD hS rfl hl.1 rfl (Nat.le_of_ble_eq_true rfl) ⟨Nat.le_of_ble_eq_true rfl, Nat.le_of_ble_eq_true rfl⟩ d_X_ask_16 ⟨Nat.le_refl _, Nat.le_refl _⟩ (fun H locs hP hD hS => ?_)
        rw [show zb (decide (0 ≤ nI 1 ∧ nI 1 ≤ 6)) = 1 from by rw [decide_eq_true (h2)]; rfl]
        refine lv_if_ne (tgt := 26) hx hb d_X_ask_19 (by decide) (fun _ => ?_) (fun h9 => absurd h9 (by decide))
        refine lv_aload_n hx hb d_X_ask_26 rfl (lv_at hl 1 rfl) ?_
        refine zcV (As := []) (rest := []) (ci := 10) E cy_X_beginAct kw_262 ks_2 kw_260 (c_X_beginAct l dC dI c1 c2 c3 A aX aC aD aE aA ad d n kk ht tk so lt sto ni ac bl t) hK hP hD hS 3 rfl zC_X.1 rfl rfl hl.1 rfl (Nat.le_of_ble_eq_true rfl) ⟨Nat.le_of_ble_eq_true rfl, Nat.le_of_ble_eq_true rfl⟩ d_X_ask_27 ⟨Nat.le_refl _, Nat.le_refl _⟩ (fun H locs hP hD hS => ?_)
        have hP : va_P (dC, dI) classes (wx c1 c2 c3 aX aC aD aE aA ad d n kk ht tk so lt sto ni (ac + 1) bl (t0 t)) H := hP
        have hD : va_D A (wx c1 c2 c3 aX aC aD aE aA ad d n kk ht tk so lt sto ni (ac + 1) bl (t0 t)) := hD
        refine lv_iload_n hx hb d_X_ask_30 rfl (lv_at hl 3 rfl) ?_
        refine lv_iconst (v := 5) hx hb d_X_ask_31 (by decide) ?_
        refine lv_icmp_lt (tgt := 47) hx hb d_X_ask_32 (by decide) (fun _ => ?_) (fun h9 => absurd (by decide) h9)
        refine lv_iload_n hx hb d_X_ask_47 rfl (lv_at hl 3 rfl) ?_
        refine lv_tableIn (off := 48) (tgt := 96) hx hb d_X_ask_48 (by decide) (by decide) (by decide) (by decide) ?_
        refine lv_aload hx hb d_X_ask_96 (lv_at hl 0 rfl) ?_
        refine lv_iload_n hx hb d_X_ask_98 rfl (lv_at hl 4 rfl) ?_
        have hP : va_P (dC, dI) classes (wl c1 c2 aC aD aE (ad i) (kk i) d (nI (kk i + 1)) (ht i) (tk i) (lt i) (wxR c3 aX aC aA ad n kk ht tk so lt sto ni (ac + 1) bl) (i + 2) (so i, t0 t)) H := by rw [x_fo]; exact hP
        have hD : va_D A (wl c1 c2 aC aD aE (ad i) (kk i) d (nI (kk i + 1)) (ht i) (tk i) (lt i) (wxR c3 aX aC aA ad n kk ht tk so lt sto ni (ac + 1) bl) (i + 2) (so i, t0 t)) := by rw [x_fo]; exact hD
        refine dv_reach (x := y) (st := []) E (hkk i hi0) (x_len hi0) kw_336 hK hP hD hS hl.1 (Nat.le_of_ble_eq_true rfl) ⟨Nat.le_of_ble_eq_true rfl, Nat.le_of_ble_eq_true rfl⟩ d_X_ask_99 ⟨Nat.le_refl _, Nat.le_refl _⟩ (fun H locs hP hD hS => ?_)
        rw [x_un, upd_me tk i, upd_me lt i] at hP hD
        have hP : va_P (dC, dI) classes (wx c1 c2 c3 aX aC aD aE aA ad d n kk ht tk (upd so i (reachK (kk i) d (ht i) y (so i, t0 t)).2.1) lt sto ni (ac + 1) bl ((reachK (kk i) d (ht i) y (so i, t0 t)).2.2)) H := hP
        have hD : va_D A (wx c1 c2 c3 aX aC aD aE aA ad d n kk ht tk (upd so i (reachK (kk i) d (ht i) y (so i, t0 t)).2.1) lt sto ni (ac + 1) bl ((reachK (kk i) d (ht i) y (so i, t0 t)).2.2)) := hD
        refine lv_i2l (v := ((reachK (kk i) d (ht i) y (so i, t0 t)).1 : Int32).toInt64) hx hb d_X_ask_102 rfl ?_
        exact zrl E hK hP hD hS d_X_ask_103
      · have e9 : askA (d, n, kk, ht, tk, so, lt, sto, ni, ac, bl, t) (nI i) (nI 2) y = ((flashK (kk i) y (so i, t0 t)).1.toInt64, (d, n, kk, ht, tk, upd so i (flashK (kk i) y (so i, t0 t)).2.1, lt, sto, ni, ac + 1, bl, (flashK (kk i) y (so i, t0 t)).2.2)) := by show (if _ then _ else _) = _; rw [if_pos ⟨h1, h2⟩, nI_clamp (i31 hi), if_neg (fun h => absurd h.1 (by decide))]; rfl
        rw [e9]
        refine zM_of "CoastLamps" rfl (by decide) (Nat.le_of_ble_eq_true rfl) ?_
        intro p e s m below meth c ls E hP hK hD hS hl
        obtain ⟨hx, hb, hml, ho, hts, hr, hlk⟩ := id E
        have hl : lv_has ls 5 [(0, .ref aX), (1, .int (nI i)), (2, .int (nI 2)), (3, .int y)] := hl
        refine lv_aload_n hx hb d_X_ask_0 rfl (lv_at hl 0 rfl) ?_
        refine lv_iload_n hx hb d_X_ask_1 rfl (lv_at hl 1 rfl) ?_
        refine zcV (As := [.int (nI i)]) (rest := []) (ci := 10) E cy_X_lampAt kw_257 ks_1 kw_255 (c_X_lampAt_t l dC dI c1 c2 c3 A aX aC aD aE aA ad d n kk ht tk so lt sto ni ac bl t hn i hi0) hK hP hD hS 3 rfl zC_X.1 rfl rfl hl.1 rfl (Nat.le_of_ble_eq_true rfl) ⟨Nat.le_of_ble_eq_true rfl, Nat.le_of_ble_eq_true rfl⟩ d_X_ask_2 ⟨Nat.le_refl _, Nat.le_refl _⟩ (fun H locs hP hD hS => ?_)
        refine lv_astore (lv' := [(4, .ref (ad i)), (0, .ref aX), (1, .int (nI i)), (2, .int (nI 2)), (3, .int y)]) hx hb d_X_ask_5 hl (by decide) rfl (fun ls hl => ?_)
        refine lv_aload hx hb d_X_ask_7 (lv_at hl 0 rfl) ?_
        refine lv_ifnull hx hb d_X_ask_9 ?_
        refine lv_iload_n hx hb d_X_ask_12 rfl (lv_at hl 3 rfl) ?_
        refine lv_iconst (v := 0) hx hb d_X_ask_13 (by decide) ?_
        refine lv_bipush (v := 6) hx hb d_X_ask_14 (by decide) ?_
        refine zcS (As := [.int (nI 2), .int 0, .int 6]) (rest := []) E cy_X_within kw_70 kw_69 rfl (c_X_within l dC dI (t3 c1 c2 c3) A (wx c1 c2 c3 aX aC aD aE aA ad d n kk ht tk so lt sto ni ac bl t) (nI 2) 0 6) hK hP hD hS rfl hl.1 rfl (Nat.le_of_ble_eq_true rfl) ⟨Nat.le_of_ble_eq_true rfl, Nat.le_of_ble_eq_true rfl⟩ d_X_ask_16 ⟨Nat.le_refl _, Nat.le_refl _⟩ (fun H locs hP hD hS => ?_)
        rw [show zb (decide (0 ≤ nI 2 ∧ nI 2 ≤ 6)) = 1 from by rw [decide_eq_true (h2)]; rfl]
        refine lv_if_ne (tgt := 26) hx hb d_X_ask_19 (by decide) (fun _ => ?_) (fun h9 => absurd h9 (by decide))
        refine lv_aload_n hx hb d_X_ask_26 rfl (lv_at hl 1 rfl) ?_
        refine zcV (As := []) (rest := []) (ci := 10) E cy_X_beginAct kw_262 ks_2 kw_260 (c_X_beginAct l dC dI c1 c2 c3 A aX aC aD aE aA ad d n kk ht tk so lt sto ni ac bl t) hK hP hD hS 3 rfl zC_X.1 rfl rfl hl.1 rfl (Nat.le_of_ble_eq_true rfl) ⟨Nat.le_of_ble_eq_true rfl, Nat.le_of_ble_eq_true rfl⟩ d_X_ask_27 ⟨Nat.le_refl _, Nat.le_refl _⟩ (fun H locs hP hD hS => ?_)
        have hP : va_P (dC, dI) classes (wx c1 c2 c3 aX aC aD aE aA ad d n kk ht tk so lt sto ni (ac + 1) bl (t0 t)) H := hP
        have hD : va_D A (wx c1 c2 c3 aX aC aD aE aA ad d n kk ht tk so lt sto ni (ac + 1) bl (t0 t)) := hD
        refine lv_iload_n hx hb d_X_ask_30 rfl (lv_at hl 3 rfl) ?_
        refine lv_iconst (v := 5) hx hb d_X_ask_31 (by decide) ?_
        refine lv_icmp_lt (tgt := 47) hx hb d_X_ask_32 (by decide) (fun _ => ?_) (fun h9 => absurd (by decide) h9)
        refine lv_iload_n hx hb d_X_ask_47 rfl (lv_at hl 3 rfl) ?_
        refine lv_tableIn (off := 56) (tgt := 104) hx hb d_X_ask_48 (by decide) (by decide) (by decide) (by decide) ?_
        refine lv_aload hx hb d_X_ask_104 (lv_at hl 0 rfl) ?_
        refine lv_iload_n hx hb d_X_ask_106 rfl (lv_at hl 4 rfl) ?_
        have hP : va_P (dC, dI) classes (wl c1 c2 aC aD aE (ad i) (kk i) d (nI (kk i + 1)) (ht i) (tk i) (lt i) (wxR c3 aX aC aA ad n kk ht tk so lt sto ni (ac + 1) bl) (i + 2) (so i, t0 t)) H := by rw [x_fo]; exact hP
        have hD : va_D A (wl c1 c2 aC aD aE (ad i) (kk i) d (nI (kk i + 1)) (ht i) (tk i) (lt i) (wxR c3 aX aC aA ad n kk ht tk so lt sto ni (ac + 1) bl) (i + 2) (so i, t0 t)) := by rw [x_fo]; exact hD
        refine dv_flash (x := y) (st := []) E (hkk i hi0) (x_len hi0) kw_374 hK hP hD hS hl.1 (Nat.le_of_ble_eq_true rfl) ⟨Nat.le_of_ble_eq_true rfl, Nat.le_of_ble_eq_true rfl⟩ d_X_ask_107 ⟨Nat.le_refl _, Nat.le_refl _⟩ (fun H locs hP hD hS => ?_)
        rw [x_un, upd_me tk i, upd_me lt i] at hP hD
        have hP : va_P (dC, dI) classes (wx c1 c2 c3 aX aC aD aE aA ad d n kk ht tk (upd so i (flashK (kk i) y (so i, t0 t)).2.1) lt sto ni (ac + 1) bl ((flashK (kk i) y (so i, t0 t)).2.2)) H := hP
        have hD : va_D A (wx c1 c2 c3 aX aC aD aE aA ad d n kk ht tk (upd so i (flashK (kk i) y (so i, t0 t)).2.1) lt sto ni (ac + 1) bl ((flashK (kk i) y (so i, t0 t)).2.2)) := hD
        refine lv_i2l (v := ((flashK (kk i) y (so i, t0 t)).1 : Int32).toInt64) hx hb d_X_ask_110 rfl ?_
        exact zrl E hK hP hD hS d_X_ask_111
      · have e9 : askA (d, n, kk, ht, tk, so, lt, sto, ni, ac, bl, t) (nI i) (nI 3) y = ((tendK (kk i) d y (so i, t0 t)).1.toInt64, (d, n, kk, ht, tk, upd so i (tendK (kk i) d y (so i, t0 t)).2.1, lt, sto, ni, ac + 1, bl, (tendK (kk i) d y (so i, t0 t)).2.2)) := by show (if _ then _ else _) = _; rw [if_pos ⟨h1, h2⟩, nI_clamp (i31 hi), if_neg (fun h => absurd h.1 (by decide))]; rfl
        rw [e9]
        refine zM_of "CoastLamps" rfl (by decide) (Nat.le_of_ble_eq_true rfl) ?_
        intro p e s m below meth c ls E hP hK hD hS hl
        obtain ⟨hx, hb, hml, ho, hts, hr, hlk⟩ := id E
        have hl : lv_has ls 5 [(0, .ref aX), (1, .int (nI i)), (2, .int (nI 3)), (3, .int y)] := hl
        refine lv_aload_n hx hb d_X_ask_0 rfl (lv_at hl 0 rfl) ?_
        refine lv_iload_n hx hb d_X_ask_1 rfl (lv_at hl 1 rfl) ?_
        refine zcV (As := [.int (nI i)]) (rest := []) (ci := 10) E cy_X_lampAt kw_257 ks_1 kw_255 (c_X_lampAt_t l dC dI c1 c2 c3 A aX aC aD aE aA ad d n kk ht tk so lt sto ni ac bl t hn i hi0) hK hP hD hS 3 rfl zC_X.1 rfl rfl hl.1 rfl (Nat.le_of_ble_eq_true rfl) ⟨Nat.le_of_ble_eq_true rfl, Nat.le_of_ble_eq_true rfl⟩ d_X_ask_2 ⟨Nat.le_refl _, Nat.le_refl _⟩ (fun H locs hP hD hS => ?_)
        refine lv_astore (lv' := [(4, .ref (ad i)), (0, .ref aX), (1, .int (nI i)), (2, .int (nI 3)), (3, .int y)]) hx hb d_X_ask_5 hl (by decide) rfl (fun ls hl => ?_)
        refine lv_aload hx hb d_X_ask_7 (lv_at hl 0 rfl) ?_
        refine lv_ifnull hx hb d_X_ask_9 ?_
        refine lv_iload_n hx hb d_X_ask_12 rfl (lv_at hl 3 rfl) ?_
        refine lv_iconst (v := 0) hx hb d_X_ask_13 (by decide) ?_
        refine lv_bipush (v := 6) hx hb d_X_ask_14 (by decide) ?_
        refine zcS (As := [.int (nI 3), .int 0, .int 6]) (rest := []) E cy_X_within kw_70 kw_69 rfl (c_X_within l dC dI (t3 c1 c2 c3) A (wx c1 c2 c3 aX aC aD aE aA ad d n kk ht tk so lt sto ni ac bl t) (nI 3) 0 6) hK hP hD hS rfl hl.1 rfl (Nat.le_of_ble_eq_true rfl) ⟨Nat.le_of_ble_eq_true rfl, Nat.le_of_ble_eq_true rfl⟩ d_X_ask_16 ⟨Nat.le_refl _, Nat.le_refl _⟩ (fun H locs hP hD hS => ?_)
        rw [show zb (decide (0 ≤ nI 3 ∧ nI 3 ≤ 6)) = 1 from by rw [decide_eq_true (h2)]; rfl]
        refine lv_if_ne (tgt := 26) hx hb d_X_ask_19 (by decide) (fun _ => ?_) (fun h9 => absurd h9 (by decide))
        refine lv_aload_n hx hb d_X_ask_26 rfl (lv_at hl 1 rfl) ?_
        refine zcV (As := []) (rest := []) (ci := 10) E cy_X_beginAct kw_262 ks_2 kw_260 (c_X_beginAct l dC dI c1 c2 c3 A aX aC aD aE aA ad d n kk ht tk so lt sto ni ac bl t) hK hP hD hS 3 rfl zC_X.1 rfl rfl hl.1 rfl (Nat.le_of_ble_eq_true rfl) ⟨Nat.le_of_ble_eq_true rfl, Nat.le_of_ble_eq_true rfl⟩ d_X_ask_27 ⟨Nat.le_refl _, Nat.le_refl _⟩ (fun H locs hP hD hS => ?_)
        have hP : va_P (dC, dI) classes (wx c1 c2 c3 aX aC aD aE aA ad d n kk ht tk so lt sto ni (ac + 1) bl (t0 t)) H := hP
        have hD : va_D A (wx c1 c2 c3 aX aC aD aE aA ad d n kk ht tk so lt sto ni (ac + 1) bl (t0 t)) := hD
        refine lv_iload_n hx hb d_X_ask_30 rfl (lv_at hl 3 rfl) ?_
        refine lv_iconst (v := 5) hx hb d_X_ask_31 (by decide) ?_
        refine lv_icmp_lt (tgt := 47) hx hb d_X_ask_32 (by decide) (fun _ => ?_) (fun h9 => absurd (by decide) h9)
        refine lv_iload_n hx hb d_X_ask_47 rfl (lv_at hl 3 rfl) ?_
        refine lv_tableIn (off := 64) (tgt := 112) hx hb d_X_ask_48 (by decide) (by decide) (by decide) (by decide) ?_
        refine lv_aload hx hb d_X_ask_112 (lv_at hl 0 rfl) ?_
        refine lv_iload_n hx hb d_X_ask_114 rfl (lv_at hl 4 rfl) ?_
        have hP : va_P (dC, dI) classes (wl c1 c2 aC aD aE (ad i) (kk i) d (nI (kk i + 1)) (ht i) (tk i) (lt i) (wxR c3 aX aC aA ad n kk ht tk so lt sto ni (ac + 1) bl) (i + 2) (so i, t0 t)) H := by rw [x_fo]; exact hP
        have hD : va_D A (wl c1 c2 aC aD aE (ad i) (kk i) d (nI (kk i + 1)) (ht i) (tk i) (lt i) (wxR c3 aX aC aA ad n kk ht tk so lt sto ni (ac + 1) bl) (i + 2) (so i, t0 t)) := by rw [x_fo]; exact hD
        refine dv_tend (x := y) (st := []) E (hkk i hi0) (x_len hi0) kw_406 hK hP hD hS hl.1 (Nat.le_of_ble_eq_true rfl) ⟨Nat.le_of_ble_eq_true rfl, Nat.le_of_ble_eq_true rfl⟩ d_X_ask_115 ⟨Nat.le_refl _, Nat.le_refl _⟩ (fun H locs hP hD hS => ?_)
        rw [x_un, upd_me tk i, upd_me lt i] at hP hD
        have hP : va_P (dC, dI) classes (wx c1 c2 c3 aX aC aD aE aA ad d n kk ht tk (upd so i (tendK (kk i) d y (so i, t0 t)).2.1) lt sto ni (ac + 1) bl ((tendK (kk i) d y (so i, t0 t)).2.2)) H := hP
        have hD : va_D A (wx c1 c2 c3 aX aC aD aE aA ad d n kk ht tk (upd so i (tendK (kk i) d y (so i, t0 t)).2.1) lt sto ni (ac + 1) bl ((tendK (kk i) d y (so i, t0 t)).2.2)) := hD
        refine lv_i2l (v := ((tendK (kk i) d y (so i, t0 t)).1 : Int32).toInt64) hx hb d_X_ask_118 rfl ?_
        exact zrl E hK hP hD hS d_X_ask_119
      · have e9 : askA (d, n, kk, ht, tk, so, lt, sto, ni, ac, bl, t) (nI i) (nI 4) y = ((rankK (kk i) (ht i) (tk i) (so i, t0 t)).1.toInt64, (d, n, kk, ht, tk, upd so i (rankK (kk i) (ht i) (tk i) (so i, t0 t)).2.1, lt, sto, ni, ac + 1, bl, (rankK (kk i) (ht i) (tk i) (so i, t0 t)).2.2)) := by show (if _ then _ else _) = _; rw [if_pos ⟨h1, h2⟩, nI_clamp (i31 hi), if_neg (fun h => absurd h.1 (by decide))]; rfl
        rw [e9]
        refine zM_of "CoastLamps" rfl (by decide) (Nat.le_of_ble_eq_true rfl) ?_
        intro p e s m below meth c ls E hP hK hD hS hl
        obtain ⟨hx, hb, hml, ho, hts, hr, hlk⟩ := id E
        have hl : lv_has ls 5 [(0, .ref aX), (1, .int (nI i)), (2, .int (nI 4)), (3, .int y)] := hl
        refine lv_aload_n hx hb d_X_ask_0 rfl (lv_at hl 0 rfl) ?_
        refine lv_iload_n hx hb d_X_ask_1 rfl (lv_at hl 1 rfl) ?_
        refine zcV (As := [.int (nI i)]) (rest := []) (ci := 10) E cy_X_lampAt kw_257 ks_1 kw_255 (c_X_lampAt_t l dC dI c1 c2 c3 A aX aC aD aE aA ad d n kk ht tk so lt sto ni ac bl t hn i hi0) hK hP hD hS 3 rfl zC_X.1 rfl rfl hl.1 rfl (Nat.le_of_ble_eq_true rfl) ⟨Nat.le_of_ble_eq_true rfl, Nat.le_of_ble_eq_true rfl⟩ d_X_ask_2 ⟨Nat.le_refl _, Nat.le_refl _⟩ (fun H locs hP hD hS => ?_)
        refine lv_astore (lv' := [(4, .ref (ad i)), (0, .ref aX), (1, .int (nI i)), (2, .int (nI 4)), (3, .int y)]) hx hb d_X_ask_5 hl (by decide) rfl (fun ls hl => ?_)
        refine lv_aload hx hb d_X_ask_7 (lv_at hl 0 rfl) ?_
        refine lv_ifnull hx hb d_X_ask_9 ?_
        refine lv_iload_n hx hb d_X_ask_12 rfl (lv_at hl 3 rfl) ?_
        refine lv_iconst (v := 0) hx hb d_X_ask_13 (by decide) ?_
        refine lv_bipush (v := 6) hx hb d_X_ask_14 (by decide) ?_
        refine zcS (As := [.int (nI 4), .int 0, .int 6]) (rest := []) E cy_X_within kw_70 kw_69 rfl (c_X_within l dC dI (t3 c1 c2 c3) A (wx c1 c2 c3 aX aC aD aE aA ad d n kk ht tk so lt sto ni ac bl t) (nI 4) 0 6) hK hP hD hS rfl hl.1 rfl (Nat.le_of_ble_eq_true rfl) ⟨Nat.le_of_ble_eq_true rfl, Nat.le_of_ble_eq_true rfl⟩ d_X_ask_16 ⟨Nat.le_refl _, Nat.le_refl _⟩ (fun H locs hP hD hS => ?_)
        rw [show zb (decide (0 ≤ nI 4 ∧ nI 4 ≤ 6)) = 1 from by rw [decide_eq_true (h2)]; rfl]
        refine lv_if_ne (tgt := 26) hx hb d_X_ask_19 (by decide) (fun _ => ?_) (fun h9 => absurd h9 (by decide))
        refine lv_aload_n hx hb d_X_ask_26 rfl (lv_at hl 1 rfl) ?_
        refine zcV (As := []) (rest := []) (ci := 10) E cy_X_beginAct kw_262 ks_2 kw_260 (c_X_beginAct l dC dI c1 c2 c3 A aX aC aD aE aA ad d n kk ht tk so lt sto ni ac bl t) hK hP hD hS 3 rfl zC_X.1 rfl rfl hl.1 rfl (Nat.le_of_ble_eq_true rfl) ⟨Nat.le_of_ble_eq_true rfl, Nat.le_of_ble_eq_true rfl⟩ d_X_ask_27 ⟨Nat.le_refl _, Nat.le_refl _⟩ (fun H locs hP hD hS => ?_)
        have hP : va_P (dC, dI) classes (wx c1 c2 c3 aX aC aD aE aA ad d n kk ht tk so lt sto ni (ac + 1) bl (t0 t)) H := hP
        have hD : va_D A (wx c1 c2 c3 aX aC aD aE aA ad d n kk ht tk so lt sto ni (ac + 1) bl (t0 t)) := hD
        refine lv_iload_n hx hb d_X_ask_30 rfl (lv_at hl 3 rfl) ?_
        refine lv_iconst (v := 5) hx hb d_X_ask_31 (by decide) ?_
        refine lv_icmp_lt (tgt := 47) hx hb d_X_ask_32 (by decide) (fun _ => ?_) (fun h9 => absurd (by decide) h9)
        refine lv_iload_n hx hb d_X_ask_47 rfl (lv_at hl 3 rfl) ?_
        refine lv_tableIn (off := 72) (tgt := 120) hx hb d_X_ask_48 (by decide) (by decide) (by decide) (by decide) ?_
        refine lv_aload hx hb d_X_ask_120 (lv_at hl 0 rfl) ?_
        have hP : va_P (dC, dI) classes (wl c1 c2 aC aD aE (ad i) (kk i) d (nI (kk i + 1)) (ht i) (tk i) (lt i) (wxR c3 aX aC aA ad n kk ht tk so lt sto ni (ac + 1) bl) (i + 2) (so i, t0 t)) H := by rw [x_fo]; exact hP
        have hD : va_D A (wl c1 c2 aC aD aE (ad i) (kk i) d (nI (kk i + 1)) (ht i) (tk i) (lt i) (wxR c3 aX aC aA ad n kk ht tk so lt sto ni (ac + 1) bl) (i + 2) (so i, t0 t)) := by rw [x_fo]; exact hD
        refine dv_rank (st := []) E (hkk i hi0) (x_len hi0) kw_436 hK hP hD hS hl.1 (Nat.le_of_ble_eq_true rfl) ⟨Nat.le_of_ble_eq_true rfl, Nat.le_of_ble_eq_true rfl⟩ d_X_ask_122 ⟨Nat.le_refl _, Nat.le_refl _⟩ (fun H locs hP hD hS => ?_)
        rw [x_un, upd_me tk i, upd_me lt i] at hP hD
        have hP : va_P (dC, dI) classes (wx c1 c2 c3 aX aC aD aE aA ad d n kk ht tk (upd so i (rankK (kk i) (ht i) (tk i) (so i, t0 t)).2.1) lt sto ni (ac + 1) bl ((rankK (kk i) (ht i) (tk i) (so i, t0 t)).2.2)) H := hP
        have hD : va_D A (wx c1 c2 c3 aX aC aD aE aA ad d n kk ht tk (upd so i (rankK (kk i) (ht i) (tk i) (so i, t0 t)).2.1) lt sto ni (ac + 1) bl ((rankK (kk i) (ht i) (tk i) (so i, t0 t)).2.2)) := hD
        refine lv_i2l (v := ((rankK (kk i) (ht i) (tk i) (so i, t0 t)).1 : Int32).toInt64) hx hb d_X_ask_125 rfl ?_
        exact zrl E hK hP hD hS d_X_ask_126
      · cases hh : hornedK (kk i)
        · have e9 : askA (d, n, kk, ht, tk, so, lt, sto, ni, ac, bl, t) (nI i) (nI 5) y = (zCAST, (d, n, kk, ht, tk, so, lt, sto, ni, ac + 1, bl, t0 t)) := by show (if _ then _ else _) = _; rw [if_pos ⟨h1, h2⟩, nI_clamp (i31 hi), if_pos ⟨by decide, hh⟩]
          rw [e9]
          refine zM_of "CoastLamps" rfl (by decide) (Nat.le_of_ble_eq_true rfl) ?_
          intro p e s m below meth c ls E hP hK hD hS hl
          obtain ⟨hx, hb, hml, ho, hts, hr, hlk⟩ := id E
          have hl : lv_has ls 5 [(0, .ref aX), (1, .int (nI i)), (2, .int (nI 5)), (3, .int y)] := hl
          refine lv_aload_n hx hb d_X_ask_0 rfl (lv_at hl 0 rfl) ?_
          refine lv_iload_n hx hb d_X_ask_1 rfl (lv_at hl 1 rfl) ?_
          refine zcV (As := [.int (nI i)]) (rest := []) (ci := 10) E cy_X_lampAt kw_257 ks_1 kw_255 (c_X_lampAt_t l dC dI c1 c2 c3 A aX aC aD aE aA ad d n kk ht tk so lt sto ni ac bl t hn i hi0) hK hP hD hS 3 rfl zC_X.1 rfl rfl hl.1 rfl (Nat.le_of_ble_eq_true rfl) ⟨Nat.le_of_ble_eq_true rfl, Nat.le_of_ble_eq_true rfl⟩ d_X_ask_2 ⟨Nat.le_refl _, Nat.le_refl _⟩ (fun H locs hP hD hS => ?_)
          refine lv_astore (lv' := [(4, .ref (ad i)), (0, .ref aX), (1, .int (nI i)), (2, .int (nI 5)), (3, .int y)]) hx hb d_X_ask_5 hl (by decide) rfl (fun ls hl => ?_)
          refine lv_aload hx hb d_X_ask_7 (lv_at hl 0 rfl) ?_
          refine lv_ifnull hx hb d_X_ask_9 ?_
          refine lv_iload_n hx hb d_X_ask_12 rfl (lv_at hl 3 rfl) ?_
          refine lv_iconst (v := 0) hx hb d_X_ask_13 (by decide) ?_
          refine lv_bipush (v := 6) hx hb d_X_ask_14 (by decide) ?_
          refine zcS (As := [.int (nI 5), .int 0, .int 6]) (rest := []) E cy_X_within kw_70 kw_69 rfl (c_X_within l dC dI (t3 c1 c2 c3) A (wx c1 c2 c3 aX aC aD aE aA ad d n kk ht tk so lt sto ni ac bl t) (nI 5) 0 6) hK hP hD hS rfl hl.1 rfl (Nat.le_of_ble_eq_true rfl) ⟨Nat.le_of_ble_eq_true rfl, Nat.le_of_ble_eq_true rfl⟩ d_X_ask_16 ⟨Nat.le_refl _, Nat.le_refl _⟩ (fun H locs hP hD hS => ?_)
          rw [show zb (decide (0 ≤ nI 5 ∧ nI 5 ≤ 6)) = 1 from by rw [decide_eq_true (h2)]; rfl]
          refine lv_if_ne (tgt := 26) hx hb d_X_ask_19 (by decide) (fun _ => ?_) (fun h9 => absurd h9 (by decide))
          refine lv_aload_n hx hb d_X_ask_26 rfl (lv_at hl 1 rfl) ?_
          refine zcV (As := []) (rest := []) (ci := 10) E cy_X_beginAct kw_262 ks_2 kw_260 (c_X_beginAct l dC dI c1 c2 c3 A aX aC aD aE aA ad d n kk ht tk so lt sto ni ac bl t) hK hP hD hS 3 rfl zC_X.1 rfl rfl hl.1 rfl (Nat.le_of_ble_eq_true rfl) ⟨Nat.le_of_ble_eq_true rfl, Nat.le_of_ble_eq_true rfl⟩ d_X_ask_27 ⟨Nat.le_refl _, Nat.le_refl _⟩ (fun H locs hP hD hS => ?_)
          have hP : va_P (dC, dI) classes (wx c1 c2 c3 aX aC aD aE aA ad d n kk ht tk so lt sto ni (ac + 1) bl (t0 t)) H := hP
          have hD : va_D A (wx c1 c2 c3 aX aC aD aE aA ad d n kk ht tk so lt sto ni (ac + 1) bl (t0 t)) := hD
          refine lv_iload_n hx hb d_X_ask_30 rfl (lv_at hl 3 rfl) ?_
          refine lv_iconst (v := 5) hx hb d_X_ask_31 (by decide) ?_
          refine lv_icmp_lt (tgt := 47) hx hb d_X_ask_32 (by decide) (fun h9 => absurd h9 (by decide)) (fun _ => ?_)
          refine lv_aload hx hb d_X_ask_35 (lv_at hl 0 rfl) ?_
          have hP : va_P (dC, dI) classes (wl c1 c2 aC aD aE (ad i) (kk i) d (nI (kk i + 1)) (ht i) (tk i) (lt i) (wxR c3 aX aC aA ad n kk ht tk so lt sto ni (ac + 1) bl) (i + 2) (so i, t0 t)) H := by rw [x_fo]; exact hP
          have hD : va_D A (wl c1 c2 aC aD aE (ad i) (kk i) d (nI (kk i + 1)) (ht i) (tk i) (lt i) (wxR c3 aX aC aA ad n kk ht tk so lt sto ni (ac + 1) bl) (i + 2) (so i, t0 t)) := by rw [x_fo]; exact hD
          refine dv_horned (st := []) E (hkk i hi0) (x_len hi0) kw_268 hK hP hD hS hl.1 (Nat.le_of_ble_eq_true rfl) ⟨Nat.le_of_ble_eq_true rfl, Nat.le_of_ble_eq_true rfl⟩ d_X_ask_37 ⟨Nat.le_refl _, Nat.le_refl _⟩ (fun H locs hP hD hS => ?_)
          rw [x_fo] at hP hD
          rw [hh, show zb false = 0 from rfl]
          refine lv_if_ne (tgt := 47) hx hb d_X_ask_40 (by decide) (fun h9 => absurd (rfl) h9) (fun _ => ?_)
          refine lv_ldc2 hx hb ho (hts _ kw_285) d_X_ask_43 ?_
          exact zrl E hK hP hD hS d_X_ask_46
        · have e9 : askA (d, n, kk, ht, tk, so, lt, sto, ni, ac, bl, t) (nI i) (nI 5) y = ((hornK (kk i) d (ht i) (tk i) y (so i, t0 t)).1.toInt64, (d, n, kk, ht, tk, upd so i (hornK (kk i) d (ht i) (tk i) y (so i, t0 t)).2.1, lt, sto, ni, ac + 1, bl, (hornK (kk i) d (ht i) (tk i) y (so i, t0 t)).2.2)) := by show (if _ then _ else _) = _; rw [if_pos ⟨h1, h2⟩, nI_clamp (i31 hi), if_neg (fun h => by rw [hh] at h; exact absurd h.2 (by decide))]; rfl
          rw [e9]
          refine zM_of "CoastLamps" rfl (by decide) (Nat.le_of_ble_eq_true rfl) ?_
          intro p e s m below meth c ls E hP hK hD hS hl
          obtain ⟨hx, hb, hml, ho, hts, hr, hlk⟩ := id E
          have hl : lv_has ls 5 [(0, .ref aX), (1, .int (nI i)), (2, .int (nI 5)), (3, .int y)] := hl
          refine lv_aload_n hx hb d_X_ask_0 rfl (lv_at hl 0 rfl) ?_
          refine lv_iload_n hx hb d_X_ask_1 rfl (lv_at hl 1 rfl) ?_
          refine zcV (As := [.int (nI i)]) (rest := []) (ci := 10) E cy_X_lampAt kw_257 ks_1 kw_255 (c_X_lampAt_t l dC dI c1 c2 c3 A aX aC aD aE aA ad d n kk ht tk so lt sto ni ac bl t hn i hi0) hK hP hD hS 3 rfl zC_X.1 rfl rfl hl.1 rfl (Nat.le_of_ble_eq_true rfl) ⟨Nat.le_of_ble_eq_true rfl, Nat.le_of_ble_eq_true rfl⟩ d_X_ask_2 ⟨Nat.le_refl _, Nat.le_refl _⟩ (fun H locs hP hD hS => ?_)
          refine lv_astore (lv' := [(4, .ref (ad i)), (0, .ref aX), (1, .int (nI i)), (2, .int (nI 5)), (3, .int y)]) hx hb d_X_ask_5 hl (by decide) rfl (fun ls hl => ?_)
          refine lv_aload hx hb d_X_ask_7 (lv_at hl 0 rfl) ?_
          refine lv_ifnull hx hb d_X_ask_9 ?_
          refine lv_iload_n hx hb d_X_ask_12 rfl (lv_at hl 3 rfl) ?_
          refine lv_iconst (v := 0) hx hb d_X_ask_13 (by decide) ?_
          refine lv_bipush (v := 6) hx hb d_X_ask_14 (by decide) ?_
          refine zcS (As := [.int (nI 5), .int 0, .int 6]) (rest := []) E cy_X_within kw_70 kw_69 rfl (c_X_within l dC dI (t3 c1 c2 c3) A (wx c1 c2 c3 aX aC aD aE aA ad d n kk ht tk so lt sto ni ac bl t) (nI 5) 0 6) hK hP hD hS rfl hl.1 rfl (Nat.le_of_ble_eq_true rfl) ⟨Nat.le_of_ble_eq_true rfl, Nat.le_of_ble_eq_true rfl⟩ d_X_ask_16 ⟨Nat.le_refl _, Nat.le_refl _⟩ (fun H locs hP hD hS => ?_)
          rw [show zb (decide (0 ≤ nI 5 ∧ nI 5 ≤ 6)) = 1 from by rw [decide_eq_true (h2)]; rfl]
          refine lv_if_ne (tgt := 26) hx hb d_X_ask_19 (by decide) (fun _ => ?_) (fun h9 => absurd h9 (by decide))
          refine lv_aload_n hx hb d_X_ask_26 rfl (lv_at hl 1 rfl) ?_
          refine zcV (As := []) (rest := []) (ci := 10) E cy_X_beginAct kw_262 ks_2 kw_260 (c_X_beginAct l dC dI c1 c2 c3 A aX aC aD aE aA ad d n kk ht tk so lt sto ni ac bl t) hK hP hD hS 3 rfl zC_X.1 rfl rfl hl.1 rfl (Nat.le_of_ble_eq_true rfl) ⟨Nat.le_of_ble_eq_true rfl, Nat.le_of_ble_eq_true rfl⟩ d_X_ask_27 ⟨Nat.le_refl _, Nat.le_refl _⟩ (fun H locs hP hD hS => ?_)
          have hP : va_P (dC, dI) classes (wx c1 c2 c3 aX aC aD aE aA ad d n kk ht tk so lt sto ni (ac + 1) bl (t0 t)) H := hP
          have hD : va_D A (wx c1 c2 c3 aX aC aD aE aA ad d n kk ht tk so lt sto ni (ac + 1) bl (t0 t)) := hD
          refine lv_iload_n hx hb d_X_ask_30 rfl (lv_at hl 3 rfl) ?_
          refine lv_iconst (v := 5) hx hb d_X_ask_31 (by decide) ?_
          refine lv_icmp_lt (tgt := 47) hx hb d_X_ask_32 (by decide) (fun h9 => absurd h9 (by decide)) (fun _ => ?_)
          refine lv_aload hx hb d_X_ask_35 (lv_at hl 0 rfl) ?_
          have hP : va_P (dC, dI) classes (wl c1 c2 aC aD aE (ad i) (kk i) d (nI (kk i + 1)) (ht i) (tk i) (lt i) (wxR c3 aX aC aA ad n kk ht tk so lt sto ni (ac + 1) bl) (i + 2) (so i, t0 t)) H := by rw [x_fo]; exact hP
          have hD : va_D A (wl c1 c2 aC aD aE (ad i) (kk i) d (nI (kk i + 1)) (ht i) (tk i) (lt i) (wxR c3 aX aC aA ad n kk ht tk so lt sto ni (ac + 1) bl) (i + 2) (so i, t0 t)) := by rw [x_fo]; exact hD
          refine dv_horned (st := []) E (hkk i hi0) (x_len hi0) kw_268 hK hP hD hS hl.1 (Nat.le_of_ble_eq_true rfl) ⟨Nat.le_of_ble_eq_true rfl, Nat.le_of_ble_eq_true rfl⟩ d_X_ask_37 ⟨Nat.le_refl _, Nat.le_refl _⟩ (fun H locs hP hD hS => ?_)
          rw [x_fo] at hP hD
          rw [hh, show zb true = 1 from rfl]
          refine lv_if_ne (tgt := 47) hx hb d_X_ask_40 (by decide) (fun _ => ?_) (fun h9 => absurd h9 (by decide))
          refine lv_iload_n hx hb d_X_ask_47 rfl (lv_at hl 3 rfl) ?_
          refine lv_tableIn (off := 79) (tgt := 127) hx hb d_X_ask_48 (by decide) (by decide) (by decide) (by decide) ?_
          refine lv_aload hx hb d_X_ask_127 (lv_at hl 0 rfl) ?_
          refine lv_iload_n hx hb d_X_ask_129 rfl (lv_at hl 4 rfl) ?_
          have hP : va_P (dC, dI) classes (wl c1 c2 aC aD aE (ad i) (kk i) d (nI (kk i + 1)) (ht i) (tk i) (lt i) (wxR c3 aX aC aA ad n kk ht tk so lt sto ni (ac + 1) bl) (i + 2) (so i, t0 t)) H := by rw [x_fo]; exact hP
          have hD : va_D A (wl c1 c2 aC aD aE (ad i) (kk i) d (nI (kk i + 1)) (ht i) (tk i) (lt i) (wxR c3 aX aC aA ad n kk ht tk so lt sto ni (ac + 1) bl) (i + 2) (so i, t0 t)) := by rw [x_fo]; exact hD
          refine dv_horn (x := y) (st := []) E (hkk i hi0) hh (x_len hi0) kw_467 hK hP hD hS hl.1 (Nat.le_of_ble_eq_true rfl) ⟨Nat.le_of_ble_eq_true rfl, Nat.le_of_ble_eq_true rfl⟩ d_X_ask_130 ⟨Nat.le_refl _, Nat.le_refl _⟩ (fun H locs hP hD hS => ?_)
          rw [x_un, upd_me tk i, upd_me lt i] at hP hD
          have hP : va_P (dC, dI) classes (wx c1 c2 c3 aX aC aD aE aA ad d n kk ht tk (upd so i (hornK (kk i) d (ht i) (tk i) y (so i, t0 t)).2.1) lt sto ni (ac + 1) bl ((hornK (kk i) d (ht i) (tk i) y (so i, t0 t)).2.2)) H := hP
          have hD : va_D A (wx c1 c2 c3 aX aC aD aE aA ad d n kk ht tk (upd so i (hornK (kk i) d (ht i) (tk i) y (so i, t0 t)).2.1) lt sto ni (ac + 1) bl ((hornK (kk i) d (ht i) (tk i) y (so i, t0 t)).2.2)) := hD
          refine lv_i2l (v := ((hornK (kk i) d (ht i) (tk i) y (so i, t0 t)).1 : Int32).toInt64) hx hb d_X_ask_133 rfl ?_
          exact zrl E hK hP hD hS d_X_ask_134
      · cases hh : hornedK (kk i)
        · have e9 : askA (d, n, kk, ht, tk, so, lt, sto, ni, ac, bl, t) (nI i) (nI 6) y = (zCAST, (d, n, kk, ht, tk, so, lt, sto, ni, ac + 1, bl, t0 t)) := by show (if _ then _ else _) = _; rw [if_pos ⟨h1, h2⟩, nI_clamp (i31 hi), if_pos ⟨by decide, hh⟩]
          rw [e9]
          refine zM_of "CoastLamps" rfl (by decide) (Nat.le_of_ble_eq_true rfl) ?_
          intro p e s m below meth c ls E hP hK hD hS hl
          obtain ⟨hx, hb, hml, ho, hts, hr, hlk⟩ := id E
          have hl : lv_has ls 5 [(0, .ref aX), (1, .int (nI i)), (2, .int (nI 6)), (3, .int y)] := hl
          refine lv_aload_n hx hb d_X_ask_0 rfl (lv_at hl 0 rfl) ?_
          refine lv_iload_n hx hb d_X_ask_1 rfl (lv_at hl 1 rfl) ?_
          refine zcV (As := [.int (nI i)]) (rest := []) (ci := 10) E cy_X_lampAt kw_257 ks_1 kw_255 (c_X_lampAt_t l dC dI c1 c2 c3 A aX aC aD aE aA ad d n kk ht tk so lt sto ni ac bl t hn i hi0) hK hP hD hS 3 rfl zC_X.1 rfl rfl hl.1 rfl (Nat.le_of_ble_eq_true rfl) ⟨Nat.le_of_ble_eq_true rfl, Nat.le_of_ble_eq_true rfl⟩ d_X_ask_2 ⟨Nat.le_refl _, Nat.le_refl _⟩ (fun H locs hP hD hS => ?_)
          refine lv_astore (lv' := [(4, .ref (ad i)), (0, .ref aX), (1, .int (nI i)), (2, .int (nI 6)), (3, .int y)]) hx hb d_X_ask_5 hl (by decide) rfl (fun ls hl => ?_)
          refine lv_aload hx hb d_X_ask_7 (lv_at hl 0 rfl) ?_
          refine lv_ifnull hx hb d_X_ask_9 ?_
          refine lv_iload_n hx hb d_X_ask_12 rfl (lv_at hl 3 rfl) ?_
          refine lv_iconst (v := 0) hx hb d_X_ask_13 (by decide) ?_
          refine lv_bipush (v := 6) hx hb d_X_ask_14 (by decide) ?_
          refine zcS (As := [.int (nI 6), .int 0, .int 6]) (rest := []) E cy_X_within kw_70 kw_69 rfl (c_X_within l dC dI (t3 c1 c2 c3) A (wx c1 c2 c3 aX aC aD aE aA ad d n kk ht tk so lt sto ni ac bl t) (nI 6) 0 6) hK hP hD hS rfl hl.1 rfl (Nat.le_of_ble_eq_true rfl) ⟨Nat.le_of_ble_eq_true rfl, Nat.le_of_ble_eq_true rfl⟩ d_X_ask_16 ⟨Nat.le_refl _, Nat.le_refl _⟩ (fun H locs hP hD hS => ?_)
          rw [show zb (decide (0 ≤ nI 6 ∧ nI 6 ≤ 6)) = 1 from by rw [decide_eq_true (h2)]; rfl]
          refine lv_if_ne (tgt := 26) hx hb d_X_ask_19 (by decide) (fun _ => ?_) (fun h9 => absurd h9 (by decide))
          refine lv_aload_n hx hb d_X_ask_26 rfl (lv_at hl 1 rfl) ?_
          refine zcV (As := []) (rest := []) (ci := 10) E cy_X_beginAct kw_262 ks_2 kw_260 (c_X_beginAct l dC dI c1 c2 c3 A aX aC aD aE aA ad d n kk ht tk so lt sto ni ac bl t) hK hP hD hS 3 rfl zC_X.1 rfl rfl hl.1 rfl (Nat.le_of_ble_eq_true rfl) ⟨Nat.le_of_ble_eq_true rfl, Nat.le_of_ble_eq_true rfl⟩ d_X_ask_27 ⟨Nat.le_refl _, Nat.le_refl _⟩ (fun H locs hP hD hS => ?_)
          have hP : va_P (dC, dI) classes (wx c1 c2 c3 aX aC aD aE aA ad d n kk ht tk so lt sto ni (ac + 1) bl (t0 t)) H := hP
          have hD : va_D A (wx c1 c2 c3 aX aC aD aE aA ad d n kk ht tk so lt sto ni (ac + 1) bl (t0 t)) := hD
          refine lv_iload_n hx hb d_X_ask_30 rfl (lv_at hl 3 rfl) ?_
          refine lv_iconst (v := 5) hx hb d_X_ask_31 (by decide) ?_
          refine lv_icmp_lt (tgt := 47) hx hb d_X_ask_32 (by decide) (fun h9 => absurd h9 (by decide)) (fun _ => ?_)
          refine lv_aload hx hb d_X_ask_35 (lv_at hl 0 rfl) ?_
          have hP : va_P (dC, dI) classes (wl c1 c2 aC aD aE (ad i) (kk i) d (nI (kk i + 1)) (ht i) (tk i) (lt i) (wxR c3 aX aC aA ad n kk ht tk so lt sto ni (ac + 1) bl) (i + 2) (so i, t0 t)) H := by rw [x_fo]; exact hP
          have hD : va_D A (wl c1 c2 aC aD aE (ad i) (kk i) d (nI (kk i + 1)) (ht i) (tk i) (lt i) (wxR c3 aX aC aA ad n kk ht tk so lt sto ni (ac + 1) bl) (i + 2) (so i, t0 t)) := by rw [x_fo]; exact hD
          refine dv_horned (st := []) E (hkk i hi0) (x_len hi0) kw_268 hK hP hD hS hl.1 (Nat.le_of_ble_eq_true rfl) ⟨Nat.le_of_ble_eq_true rfl, Nat.le_of_ble_eq_true rfl⟩ d_X_ask_37 ⟨Nat.le_refl _, Nat.le_refl _⟩ (fun H locs hP hD hS => ?_)
          rw [x_fo] at hP hD
          rw [hh, show zb false = 0 from rfl]
          refine lv_if_ne (tgt := 47) hx hb d_X_ask_40 (by decide) (fun h9 => absurd (rfl) h9) (fun _ => ?_)
          refine lv_ldc2 hx hb ho (hts _ kw_285) d_X_ask_43 ?_
          exact zrl E hK hP hD hS d_X_ask_46
        · have e9 : askA (d, n, kk, ht, tk, so, lt, sto, ni, ac, bl, t) (nI i) (nI 6) y = ((toneK (kk i) d (ht i) (tk i) (so i, t0 t)).1.toInt64, (d, n, kk, ht, tk, upd so i (toneK (kk i) d (ht i) (tk i) (so i, t0 t)).2.1, lt, sto, ni, ac + 1, bl, (toneK (kk i) d (ht i) (tk i) (so i, t0 t)).2.2)) := by show (if _ then _ else _) = _; rw [if_pos ⟨h1, h2⟩, nI_clamp (i31 hi), if_neg (fun h => by rw [hh] at h; exact absurd h.2 (by decide))]; rfl
          rw [e9]
          refine zM_of "CoastLamps" rfl (by decide) (Nat.le_of_ble_eq_true rfl) ?_
          intro p e s m below meth c ls E hP hK hD hS hl
          obtain ⟨hx, hb, hml, ho, hts, hr, hlk⟩ := id E
          have hl : lv_has ls 5 [(0, .ref aX), (1, .int (nI i)), (2, .int (nI 6)), (3, .int y)] := hl
          refine lv_aload_n hx hb d_X_ask_0 rfl (lv_at hl 0 rfl) ?_
          refine lv_iload_n hx hb d_X_ask_1 rfl (lv_at hl 1 rfl) ?_
          refine zcV (As := [.int (nI i)]) (rest := []) (ci := 10) E cy_X_lampAt kw_257 ks_1 kw_255 (c_X_lampAt_t l dC dI c1 c2 c3 A aX aC aD aE aA ad d n kk ht tk so lt sto ni ac bl t hn i hi0) hK hP hD hS 3 rfl zC_X.1 rfl rfl hl.1 rfl (Nat.le_of_ble_eq_true rfl) ⟨Nat.le_of_ble_eq_true rfl, Nat.le_of_ble_eq_true rfl⟩ d_X_ask_2 ⟨Nat.le_refl _, Nat.le_refl _⟩ (fun H locs hP hD hS => ?_)
          refine lv_astore (lv' := [(4, .ref (ad i)), (0, .ref aX), (1, .int (nI i)), (2, .int (nI 6)), (3, .int y)]) hx hb d_X_ask_5 hl (by decide) rfl (fun ls hl => ?_)
          refine lv_aload hx hb d_X_ask_7 (lv_at hl 0 rfl) ?_
          refine lv_ifnull hx hb d_X_ask_9 ?_
          refine lv_iload_n hx hb d_X_ask_12 rfl (lv_at hl 3 rfl) ?_
          refine lv_iconst (v := 0) hx hb d_X_ask_13 (by decide) ?_
          refine lv_bipush (v := 6) hx hb d_X_ask_14 (by decide) ?_
          refine zcS (As := [.int (nI 6), .int 0, .int 6]) (rest := []) E cy_X_within kw_70 kw_69 rfl (c_X_within l dC dI (t3 c1 c2 c3) A (wx c1 c2 c3 aX aC aD aE aA ad d n kk ht tk so lt sto ni ac bl t) (nI 6) 0 6) hK hP hD hS rfl hl.1 rfl (Nat.le_of_ble_eq_true rfl) ⟨Nat.le_of_ble_eq_true rfl, Nat.le_of_ble_eq_true rfl⟩ d_X_ask_16 ⟨Nat.le_refl _, Nat.le_refl _⟩ (fun H locs hP hD hS => ?_)
          rw [show zb (decide (0 ≤ nI 6 ∧ nI 6 ≤ 6)) = 1 from by rw [decide_eq_true (h2)]; rfl]
          refine lv_if_ne (tgt := 26) hx hb d_X_ask_19 (by decide) (fun _ => ?_) (fun h9 => absurd h9 (by decide))
          refine lv_aload_n hx hb d_X_ask_26 rfl (lv_at hl 1 rfl) ?_
          refine zcV (As := []) (rest := []) (ci := 10) E cy_X_beginAct kw_262 ks_2 kw_260 (c_X_beginAct l dC dI c1 c2 c3 A aX aC aD aE aA ad d n kk ht tk so lt sto ni ac bl t) hK hP hD hS 3 rfl zC_X.1 rfl rfl hl.1 rfl (Nat.le_of_ble_eq_true rfl) ⟨Nat.le_of_ble_eq_true rfl, Nat.le_of_ble_eq_true rfl⟩ d_X_ask_27 ⟨Nat.le_refl _, Nat.le_refl _⟩ (fun H locs hP hD hS => ?_)
          have hP : va_P (dC, dI) classes (wx c1 c2 c3 aX aC aD aE aA ad d n kk ht tk so lt sto ni (ac + 1) bl (t0 t)) H := hP
          have hD : va_D A (wx c1 c2 c3 aX aC aD aE aA ad d n kk ht tk so lt sto ni (ac + 1) bl (t0 t)) := hD
          refine lv_iload_n hx hb d_X_ask_30 rfl (lv_at hl 3 rfl) ?_
          refine lv_iconst (v := 5) hx hb d_X_ask_31 (by decide) ?_
          refine lv_icmp_lt (tgt := 47) hx hb d_X_ask_32 (by decide) (fun h9 => absurd h9 (by decide)) (fun _ => ?_)
          refine lv_aload hx hb d_X_ask_35 (lv_at hl 0 rfl) ?_
          have hP : va_P (dC, dI) classes (wl c1 c2 aC aD aE (ad i) (kk i) d (nI (kk i + 1)) (ht i) (tk i) (lt i) (wxR c3 aX aC aA ad n kk ht tk so lt sto ni (ac + 1) bl) (i + 2) (so i, t0 t)) H := by rw [x_fo]; exact hP
          have hD : va_D A (wl c1 c2 aC aD aE (ad i) (kk i) d (nI (kk i + 1)) (ht i) (tk i) (lt i) (wxR c3 aX aC aA ad n kk ht tk so lt sto ni (ac + 1) bl) (i + 2) (so i, t0 t)) := by rw [x_fo]; exact hD
          refine dv_horned (st := []) E (hkk i hi0) (x_len hi0) kw_268 hK hP hD hS hl.1 (Nat.le_of_ble_eq_true rfl) ⟨Nat.le_of_ble_eq_true rfl, Nat.le_of_ble_eq_true rfl⟩ d_X_ask_37 ⟨Nat.le_refl _, Nat.le_refl _⟩ (fun H locs hP hD hS => ?_)
          rw [x_fo] at hP hD
          rw [hh, show zb true = 1 from rfl]
          refine lv_if_ne (tgt := 47) hx hb d_X_ask_40 (by decide) (fun _ => ?_) (fun h9 => absurd h9 (by decide))
          refine lv_iload_n hx hb d_X_ask_47 rfl (lv_at hl 3 rfl) ?_
          refine lv_tableOut (tgt := 135) hx hb d_X_ask_48 (by decide) (by decide) ?_
          refine lv_aload hx hb d_X_ask_135 (lv_at hl 0 rfl) ?_
          have hP : va_P (dC, dI) classes (wl c1 c2 aC aD aE (ad i) (kk i) d (nI (kk i + 1)) (ht i) (tk i) (lt i) (wxR c3 aX aC aA ad n kk ht tk so lt sto ni (ac + 1) bl) (i + 2) (so i, t0 t)) H := by rw [x_fo]; exact hP
          have hD : va_D A (wl c1 c2 aC aD aE (ad i) (kk i) d (nI (kk i + 1)) (ht i) (tk i) (lt i) (wxR c3 aX aC aA ad n kk ht tk so lt sto ni (ac + 1) bl) (i + 2) (so i, t0 t)) := by rw [x_fo]; exact hD
          refine dv_tone (st := []) E (hkk i hi0) hh (x_len hi0) kw_515 hK hP hD hS hl.1 (Nat.le_of_ble_eq_true rfl) ⟨Nat.le_of_ble_eq_true rfl, Nat.le_of_ble_eq_true rfl⟩ d_X_ask_137 ⟨Nat.le_refl _, Nat.le_refl _⟩ (fun H locs hP hD hS => ?_)
          rw [x_un, upd_me tk i, upd_me lt i] at hP hD
          have hP : va_P (dC, dI) classes (wx c1 c2 c3 aX aC aD aE aA ad d n kk ht tk (upd so i (toneK (kk i) d (ht i) (tk i) (so i, t0 t)).2.1) lt sto ni (ac + 1) bl ((toneK (kk i) d (ht i) (tk i) (so i, t0 t)).2.2)) H := hP
          have hD : va_D A (wx c1 c2 c3 aX aC aD aE aA ad d n kk ht tk (upd so i (toneK (kk i) d (ht i) (tk i) (so i, t0 t)).2.1) lt sto ni (ac + 1) bl ((toneK (kk i) d (ht i) (tk i) (so i, t0 t)).2.2)) := hD
          refine lv_i2l (v := ((toneK (kk i) d (ht i) (tk i) (so i, t0 t)).1 : Int32).toInt64) hx hb d_X_ask_140 rfl ?_
          exact zrl E hK hP hD hS d_X_ask_141
    · have e9 : askA (d, n, kk, ht, tk, so, lt, sto, ni, ac, bl, t) (nI i) mb y = (zNONE, (d, n, kk, ht, tk, so, lt, sto, ni, ac, bl, t)) := by show (if _ then _ else _) = _; rw [if_neg (fun h => h2 h.2)]
      rw [e9]
      refine zM_of "CoastLamps" rfl (by decide) (Nat.le_of_ble_eq_true rfl) ?_
      intro p e s m below meth c ls E hP hK hD hS hl
      obtain ⟨hx, hb, hml, ho, hts, hr, hlk⟩ := id E
      have hl : lv_has ls 5 [(0, .ref aX), (1, .int (nI i)), (2, .int mb), (3, .int y)] := hl
      refine lv_aload_n hx hb d_X_ask_0 rfl (lv_at hl 0 rfl) ?_
      refine lv_iload_n hx hb d_X_ask_1 rfl (lv_at hl 1 rfl) ?_
      refine zcV (As := [.int (nI i)]) (rest := []) (ci := 10) E cy_X_lampAt kw_257 ks_1 kw_255 (c_X_lampAt_t l dC dI c1 c2 c3 A aX aC aD aE aA ad d n kk ht tk so lt sto ni ac bl t hn i hi0) hK hP hD hS 3 rfl zC_X.1 rfl rfl hl.1 rfl (Nat.le_of_ble_eq_true rfl) ⟨Nat.le_of_ble_eq_true rfl, Nat.le_of_ble_eq_true rfl⟩ d_X_ask_2 ⟨Nat.le_refl _, Nat.le_refl _⟩ (fun H locs hP hD hS => ?_)
      refine lv_astore (lv' := [(4, .ref (ad i)), (0, .ref aX), (1, .int (nI i)), (2, .int mb), (3, .int y)]) hx hb d_X_ask_5 hl (by decide) rfl (fun ls hl => ?_)
      refine lv_aload hx hb d_X_ask_7 (lv_at hl 0 rfl) ?_
      refine lv_ifnull hx hb d_X_ask_9 ?_
      refine lv_iload_n hx hb d_X_ask_12 rfl (lv_at hl 3 rfl) ?_
      refine lv_iconst (v := 0) hx hb d_X_ask_13 (by decide) ?_
      refine lv_bipush (v := 6) hx hb d_X_ask_14 (by decide) ?_
      refine zcS (As := [.int mb, .int 0, .int 6]) (rest := []) E cy_X_within kw_70 kw_69 rfl (c_X_within l dC dI (t3 c1 c2 c3) A (wx c1 c2 c3 aX aC aD aE aA ad d n kk ht tk so lt sto ni ac bl t) mb 0 6) hK hP hD hS rfl hl.1 rfl (Nat.le_of_ble_eq_true rfl) ⟨Nat.le_of_ble_eq_true rfl, Nat.le_of_ble_eq_true rfl⟩ d_X_ask_16 ⟨Nat.le_refl _, Nat.le_refl _⟩ (fun H locs hP hD hS => ?_)
      rw [show zb (decide (0 ≤ mb ∧ mb ≤ 6)) = 0 from by rw [decide_eq_false (h2)]; rfl]
      refine lv_if_ne (tgt := 26) hx hb d_X_ask_19 (by decide) (fun h9 => absurd (rfl) h9) (fun _ => ?_)
      refine lv_ldc2 hx hb ho (hts _ kw_259) d_X_ask_22 ?_
      exact zrl E hK hP hD hS d_X_ask_25
  · have e9 : askA (d, n, kk, ht, tk, so, lt, sto, ni, ac, bl, t) x mb y = (zNONE, (d, n, kk, ht, tk, so, lt, sto, ni, ac, bl, t)) := by show (if _ then _ else _) = _; rw [if_neg (fun h => h1 h.1)]
    rw [e9]
    refine zM_of "CoastLamps" rfl (by decide) (Nat.le_of_ble_eq_true rfl) ?_
    intro p e s m below meth c ls E hP hK hD hS hl
    obtain ⟨hx, hb, hml, ho, hts, hr, hlk⟩ := id E
    have hl : lv_has ls 5 [(0, .ref aX), (1, .int x), (2, .int mb), (3, .int y)] := hl
    refine lv_aload_n hx hb d_X_ask_0 rfl (lv_at hl 0 rfl) ?_
    refine lv_iload_n hx hb d_X_ask_1 rfl (lv_at hl 1 rfl) ?_
    refine zcV (As := [.int x]) (rest := []) (ci := 10) E cy_X_lampAt kw_257 ks_1 kw_255 (c_X_lampAt_f l dC dI c1 c2 c3 A aX aC aD aE aA ad d n kk ht tk so lt sto ni ac bl t x h1) hK hP hD hS 3 rfl zC_X.1 rfl rfl hl.1 rfl (Nat.le_of_ble_eq_true rfl) ⟨Nat.le_of_ble_eq_true rfl, Nat.le_of_ble_eq_true rfl⟩ d_X_ask_2 ⟨Nat.le_refl _, Nat.le_refl _⟩ (fun H locs hP hD hS => ?_)
    refine lv_astoreN (lv' := [(4, .null), (0, .ref aX), (1, .int x), (2, .int mb), (3, .int y)]) hx hb d_X_ask_5 hl (by decide) rfl (fun ls hl => ?_)
    refine lv_aloadN hx hb d_X_ask_7 (lv_at hl 0 rfl) ?_
    refine lv_ifnullN (tgt := 22) hx hb d_X_ask_9 (by decide) ?_
    refine lv_ldc2 hx hb ho (hts _ kw_259) d_X_ask_22 ?_
    exact zrl E hK hP hD hS d_X_ask_25
