set_option maxHeartbeats 1000000 in
set_option maxRecDepth 100000 in
theorem c_X_dial (l : Launch) (dC : Nat → ClassId) (dI : Nat → Nat → Nat) (c1 c2 c3 : ClassId) (A : Nat → Prop) (aX aC aD aE aA : Nat) (ad : Nat → Nat) (d : Nat → Int32) (n : Nat) (kk : Nat → Nat) (ht tk so lt : Nat → Int32) (sto : Int64) (ni ac bl : Int32) (t : zT) (hI : zInv (d, n, kk, ht, tk, so, lt, sto, ni, ac, bl, t)) (x y : Int32) : zM l y_X_dial b_X_dial 4 (some (FieldType.int)) 1 22 [.ref aX, .int x, .int y] (dC, dI) (t3 c1 c2 c3) A (xW c1 c2 c3 aX aC aD aE aA ad (d, n, kk, ht, tk, so, lt, sto, ni, ac, bl, t)) (xW c1 c2 c3 aX aC aD aE aA ad (dialA (d, n, kk, ht, tk, so, lt, sto, ni, ac, bl, t) x y).2) (some (.int (dialA (d, n, kk, ht, tk, so, lt, sto, ni, ac, bl, t) x y).1)) := by
  obtain ⟨hn, hkk, hz⟩ : n ≤ 60 ∧ (∀ i, i < n → kk i < 9) ∧ ∀ i, n ≤ i → tk i = 0 ∧ so i = 0 ∧ lt i = 0 := hI
  by_cases h1 : 0 ≤ x ∧ x ≤ 7
  · by_cases h2 : 0 ≤ y ∧ y ≤ 1000
    · obtain ⟨i, hi, rfl⟩ := in_of (q := 7) (by decide) (by decide) h1
      have e9 : dialA (d, n, kk, ht, tk, so, lt, sto, ni, ac, bl, t) (nI i) y = (d i, (upd d i y, n, kk, ht, tk, so, lt, sto, ni, ac, bl, t)) := by show (if _ then _ else _) = _; rw [if_pos ⟨h1, h2⟩, nI_clamp (Nat.lt_of_le_of_lt hi (by decide))]
      rw [e9]
      refine zM_of "CoastLamps" rfl (by decide) (Nat.le_of_ble_eq_true rfl) ?_
      intro p e s m below meth c ls E hP hK hD hS hl
      obtain ⟨hx, hb, hml, ho, hts, hr, hlk⟩ := id E
      have hl : lv_has ls 4 [(0, .ref aX), (1, .int (nI i)), (2, .int y)] := hl
      refine lv_iload_n hx hb d_X_dial_0 rfl (lv_at hl 1 rfl) ?_
      refine lv_iconst (v := 0) hx hb d_X_dial_1 (by decide) ?_
      refine lv_bipush (v := 7) hx hb d_X_dial_2 (by decide) ?_
      refine zcS (As := [.int (nI i), .int 0, .int 7]) (rest := []) E cy_X_within kw_70 kw_69 rfl (c_X_within l dC dI (t3 c1 c2 c3) A (wx c1 c2 c3 aX aC aD aE aA ad d n kk ht tk so lt sto ni ac bl t) (nI i) 0 7) hK hP hD hS rfl hl.1 rfl (Nat.le_of_ble_eq_true rfl) ⟨Nat.le_of_ble_eq_true rfl, Nat.le_of_ble_eq_true rfl⟩ d_X_dial_4 ⟨Nat.le_refl _, Nat.le_refl _⟩ (fun H locs hP hD hS => ?_)
      rw [show zb (decide (0 ≤ nI i ∧ nI i ≤ 7)) = 1 from by rw [decide_eq_true (h1)]; rfl]
      refine lv_if_eq (tgt := 21) hx hb d_X_dial_7 (by decide) (fun h9 => absurd h9 (by decide)) (fun _ => ?_)
      refine lv_iload_n hx hb d_X_dial_10 rfl (lv_at hl 2 rfl) ?_
      refine lv_iconst (v := 0) hx hb d_X_dial_11 (by decide) ?_
      refine lv_sipush (v := 1000) hx hb d_X_dial_12 (by decide) ?_
      refine zcS (As := [.int y, .int 0, .int 1000]) (rest := []) E cy_X_within kw_70 kw_69 rfl (c_X_within l dC dI (t3 c1 c2 c3) A (wx c1 c2 c3 aX aC aD aE aA ad d n kk ht tk so lt sto ni ac bl t) y 0 1000) hK hP hD hS rfl hl.1 rfl (Nat.le_of_ble_eq_true rfl) ⟨Nat.le_of_ble_eq_true rfl, Nat.le_of_ble_eq_true rfl⟩ d_X_dial_15 ⟨Nat.le_refl _, Nat.le_refl _⟩ (fun H locs hP hD hS => ?_)
      rw [show zb (decide (0 ≤ y ∧ y ≤ 1000)) = 1 from by rw [decide_eq_true (h2)]; rfl]
      refine lv_if_ne (tgt := 23) hx hb d_X_dial_18 (by decide) (fun _ => ?_) (fun h9 => absurd h9 (by decide))
      refine lv_aload_n hx hb d_X_dial_23 rfl (lv_at hl 0 rfl) ?_
      refine zget (ci := 10) (fs := [.ref aC, .ref aA, .int (nI n), .int ni, .int ac, .int bl, .long sto]) E hK hP 3 rfl zC_X 0 (by decide) kw_43 (Or.inl rfl) rfl d_X_dial_24 ?_
      refine lv_iload_n hx hb d_X_dial_27 rfl (lv_at hl 1 rfl) ?_
      refine zcV (As := [.int (nI i)]) (rest := []) (ci := 9) E cy_Coast_dialed kw_73 kw_74 kw_72 (c_Coast_dialed l dC dI c1 c2 c3 A aC aD aE d (wxR c3 aX aC aA ad n kk ht tk so lt sto ni ac bl) t (nI i) i rfl (Nat.lt_succ_of_le hi)) hK hP hD hS 0 rfl zC_Coast.1 rfl rfl hl.1 rfl (Nat.le_of_ble_eq_true rfl) ⟨Nat.le_of_ble_eq_true rfl, Nat.le_of_ble_eq_true rfl⟩ d_X_dial_28 ⟨Nat.le_refl _, Nat.le_refl _⟩ (fun H locs hP hD hS => ?_)
      have hP : va_P (dC, dI) classes (wx c1 c2 c3 aX aC aD aE aA ad d n kk ht tk so lt sto ni ac bl t) H := hP
      have hD : va_D A (wx c1 c2 c3 aX aC aD aE aA ad d n kk ht tk so lt sto ni ac bl t) := hD
      refine lv_istore_n (lv' := [(3, .int (d i)), (0, .ref aX), (1, .int (nI i)), (2, .int y)]) hx hb d_X_dial_31 rfl hl (by decide) rfl (fun ls hl => ?_)
      refine lv_aload_n hx hb d_X_dial_32 rfl (lv_at hl 1 rfl) ?_
      refine zget (ci := 10) (fs := [.ref aC, .ref aA, .int (nI n), .int ni, .int ac, .int bl, .long sto]) E hK hP 3 rfl zC_X 0 (by decide) kw_43 (Or.inl rfl) rfl d_X_dial_33 ?_
      refine lv_iload_n hx hb d_X_dial_36 rfl (lv_at hl 2 rfl) ?_
      refine lv_iload_n hx hb d_X_dial_37 rfl (lv_at hl 3 rfl) ?_
      refine zcV (As := [.int (nI i), .int y]) (rest := []) (ci := 9) E cy_Coast_turn kw_77 kw_78 kw_76 (c_Coast_turn l dC dI c1 c2 c3 A aC aD aE d (wxR c3 aX aC aA ad n kk ht tk so lt sto ni ac bl) t (nI i) y i rfl (Nat.lt_succ_of_le hi)) hK hP hD hS 0 rfl zC_Coast.1 rfl rfl hl.1 rfl (Nat.le_of_ble_eq_true rfl) ⟨Nat.le_of_ble_eq_true rfl, Nat.le_of_ble_eq_true rfl⟩ d_X_dial_38 ⟨Nat.le_refl _, Nat.le_refl _⟩ (fun H locs hP hD hS => ?_)
      have hP : va_P (dC, dI) classes (wx c1 c2 c3 aX aC aD aE aA ad (upd d i y) n kk ht tk so lt sto ni ac bl t) H := hP
      have hD : va_D A (wx c1 c2 c3 aX aC aD aE aA ad (upd d i y) n kk ht tk so lt sto ni ac bl t) := hD
      refine lv_iload_n hx hb d_X_dial_41 rfl (lv_at hl 0 rfl) ?_
      exact zri E hK hP hD hS d_X_dial_42
    · have e9 : dialA (d, n, kk, ht, tk, so, lt, sto, ni, ac, bl, t) x y = (-1, (d, n, kk, ht, tk, so, lt, sto, ni, ac, bl, t)) := by show (if _ then _ else _) = _; rw [if_neg (fun h => h2 h.2)]
      rw [e9]
      refine zM_of "CoastLamps" rfl (by decide) (Nat.le_of_ble_eq_true rfl) ?_
      intro p e s m below meth c ls E hP hK hD hS hl
      obtain ⟨hx, hb, hml, ho, hts, hr, hlk⟩ := id E
      have hl : lv_has ls 4 [(0, .ref aX), (1, .int x), (2, .int y)] := hl
      refine lv_iload_n hx hb d_X_dial_0 rfl (lv_at hl 1 rfl) ?_
      refine lv_iconst (v := 0) hx hb d_X_dial_1 (by decide) ?_
      refine lv_bipush (v := 7) hx hb d_X_dial_2 (by decide) ?_
      refine zcS (As := [.int x, .int 0, .int 7]) (rest := []) E cy_X_within kw_70 kw_69 rfl (c_X_within l dC dI (t3 c1 c2 c3) A (wx c1 c2 c3 aX aC aD aE aA ad d n kk ht tk so lt sto ni ac bl t) x 0 7) hK hP hD hS rfl hl.1 rfl (Nat.le_of_ble_eq_true rfl) ⟨Nat.le_of_ble_eq_true rfl, Nat.le_of_ble_eq_true rfl⟩ d_X_dial_4 ⟨Nat.le_refl _, Nat.le_refl _⟩ (fun H locs hP hD hS => ?_)
      rw [show zb (decide (0 ≤ x ∧ x ≤ 7)) = 1 from by rw [decide_eq_true (h1)]; rfl]
      refine lv_if_eq (tgt := 21) hx hb d_X_dial_7 (by decide) (fun h9 => absurd h9 (by decide)) (fun _ => ?_)
      refine lv_iload_n hx hb d_X_dial_10 rfl (lv_at hl 2 rfl) ?_
      refine lv_iconst (v := 0) hx hb d_X_dial_11 (by decide) ?_
      refine lv_sipush (v := 1000) hx hb d_X_dial_12 (by decide) ?_
      refine zcS (As := [.int y, .int 0, .int 1000]) (rest := []) E cy_X_within kw_70 kw_69 rfl (c_X_within l dC dI (t3 c1 c2 c3) A (wx c1 c2 c3 aX aC aD aE aA ad d n kk ht tk so lt sto ni ac bl t) y 0 1000) hK hP hD hS rfl hl.1 rfl (Nat.le_of_ble_eq_true rfl) ⟨Nat.le_of_ble_eq_true rfl, Nat.le_of_ble_eq_true rfl⟩ d_X_dial_15 ⟨Nat.le_refl _, Nat.le_refl _⟩ (fun H locs hP hD hS => ?_)
      rw [show zb (decide (0 ≤ y ∧ y ≤ 1000)) = 0 from by rw [decide_eq_false (h2)]; rfl]
      refine lv_if_ne (tgt := 23) hx hb d_X_dial_18 (by decide) (fun h9 => absurd (rfl) h9) (fun _ => ?_)
      refine lv_iconst (v := (-1)) hx hb d_X_dial_21 (by decide) ?_
      exact zri E hK hP hD hS d_X_dial_22
  · have e9 : dialA (d, n, kk, ht, tk, so, lt, sto, ni, ac, bl, t) x y = (-1, (d, n, kk, ht, tk, so, lt, sto, ni, ac, bl, t)) := by show (if _ then _ else _) = _; rw [if_neg (fun h => h1 h.1)]
    rw [e9]
    refine zM_of "CoastLamps" rfl (by decide) (Nat.le_of_ble_eq_true rfl) ?_
    intro p e s m below meth c ls E hP hK hD hS hl
    obtain ⟨hx, hb, hml, ho, hts, hr, hlk⟩ := id E
    have hl : lv_has ls 4 [(0, .ref aX), (1, .int x), (2, .int y)] := hl
    refine lv_iload_n hx hb d_X_dial_0 rfl (lv_at hl 1 rfl) ?_
    refine lv_iconst (v := 0) hx hb d_X_dial_1 (by decide) ?_
    refine lv_bipush (v := 7) hx hb d_X_dial_2 (by decide) ?_
    refine zcS (As := [.int x, .int 0, .int 7]) (rest := []) E cy_X_within kw_70 kw_69 rfl (c_X_within l dC dI (t3 c1 c2 c3) A (wx c1 c2 c3 aX aC aD aE aA ad d n kk ht tk so lt sto ni ac bl t) x 0 7) hK hP hD hS rfl hl.1 rfl (Nat.le_of_ble_eq_true rfl) ⟨Nat.le_of_ble_eq_true rfl, Nat.le_of_ble_eq_true rfl⟩ d_X_dial_4 ⟨Nat.le_refl _, Nat.le_refl _⟩ (fun H locs hP hD hS => ?_)
    rw [show zb (decide (0 ≤ x ∧ x ≤ 7)) = 0 from by rw [decide_eq_false (h1)]; rfl]
    refine lv_if_eq (tgt := 21) hx hb d_X_dial_7 (by decide) (fun _ => ?_) (fun h9 => absurd (rfl) h9)
    refine lv_iconst (v := (-1)) hx hb d_X_dial_21 (by decide) ?_
    exact zri E hK hP hD hS d_X_dial_22
set_option maxHeartbeats 1000000 in
set_option maxRecDepth 100000 in
theorem c_X_trace (l : Launch) (dC : Nat → ClassId) (dI : Nat → Nat → Nat) (c1 c2 c3 : ClassId) (A : Nat → Prop) (aX aC aD aE aA : Nat) (ad : Nat → Nat) (d : Nat → Int32) (n : Nat) (kk : Nat → Nat) (ht tk so lt : Nat → Int32) (sto : Int64) (ni ac bl : Int32) (t : zT) (hI : zInv (d, n, kk, ht, tk, so, lt, sto, ni, ac, bl, t)) (x : Int32) : zM l y_X_trace b_X_trace 2 (some (FieldType.int)) 1 22 [.ref aX, .int x] (dC, dI) (t3 c1 c2 c3) A (xW c1 c2 c3 aX aC aD aE aA ad (d, n, kk, ht, tk, so, lt, sto, ni, ac, bl, t)) (xW c1 c2 c3 aX aC aD aE aA ad (d, n, kk, ht, tk, so, lt, sto, ni, ac, bl, t)) (some (.int (traceA (d, n, kk, ht, tk, so, lt, sto, ni, ac, bl, t) x))) := by
  obtain ⟨hn, hkk, hz⟩ : n ≤ 60 ∧ (∀ i, i < n → kk i < 9) ∧ ∀ i, n ≤ i → tk i = 0 ∧ so i = 0 ∧ lt i = 0 := hI
  by_cases h1 : 0 ≤ x ∧ x ≤ nI t.2.1 - 1
  · obtain ⟨i, hi0, rfl⟩ := isL_of t.2.2 h1
    have e9 : traceA (d, n, kk, ht, tk, so, lt, sto, ni, ac, bl, t) (nI i) = t.1 i := by show (if _ then _ else _) = _; rw [if_pos h1, nI_clamp (Nat.lt_trans hi0 (nI_w t))]
    rw [e9]
    refine zM_of "CoastLamps" rfl (by decide) (Nat.le_of_ble_eq_true rfl) ?_
    intro p e s m below meth c ls E hP hK hD hS hl
    obtain ⟨hx, hb, hml, ho, hts, hr, hlk⟩ := id E
    have hl : lv_has ls 2 [(0, .ref aX), (1, .int (nI i))] := hl
    refine lv_iload_n hx hb d_X_trace_0 rfl (lv_at hl 1 rfl) ?_
    refine lv_iconst (v := 0) hx hb d_X_trace_1 (by decide) ?_
    refine lv_aload_n hx hb d_X_trace_2 rfl (lv_at hl 0 rfl) ?_
    refine zget (ci := 10) (fs := [.ref aC, .ref aA, .int (nI n), .int ni, .int ac, .int bl, .long sto]) E hK hP 3 rfl zC_X 0 (by decide) kw_43 (Or.inl rfl) rfl d_X_trace_3 ?_
    refine zget (ci := 9) (fs := [.ref aD, .ref aE, .int (nI t.2.1)]) E hK hP 0 rfl zC_Coast 2 (by decide) kw_32 (Or.inl rfl) rfl d_X_trace_6 ?_
    refine lv_iconst (v := 1) hx hb d_X_trace_9 (by decide) ?_
    refine lv_isub hx hb d_X_trace_10 ?_
    refine zcS (As := [.int (nI i), .int 0, .int ((nI t.2.1) - 1)]) (rest := []) E cy_X_within kw_70 kw_69 rfl (c_X_within l dC dI (t3 c1 c2 c3) A (wx c1 c2 c3 aX aC aD aE aA ad d n kk ht tk so lt sto ni ac bl t) (nI i) 0 ((nI t.2.1) - 1)) hK hP hD hS rfl hl.1 rfl (Nat.le_of_ble_eq_true rfl) ⟨Nat.le_of_ble_eq_true rfl, Nat.le_of_ble_eq_true rfl⟩ d_X_trace_11 ⟨Nat.le_refl _, Nat.le_refl _⟩ (fun H locs hP hD hS => ?_)
    rw [show zb (decide (0 ≤ nI i ∧ nI i ≤ (nI t.2.1) - 1)) = 1 from by rw [decide_eq_true (h1)]; rfl]
    refine lv_if_eq (tgt := 28) hx hb d_X_trace_14 (by decide) (fun h9 => absurd h9 (by decide)) (fun _ => ?_)
    refine lv_aload_n hx hb d_X_trace_17 rfl (lv_at hl 0 rfl) ?_
    refine zget (ci := 10) (fs := [.ref aC, .ref aA, .int (nI n), .int ni, .int ac, .int bl, .long sto]) E hK hP 3 rfl zC_X 0 (by decide) kw_43 (Or.inl rfl) rfl d_X_trace_18 ?_
    refine lv_iload_n hx hb d_X_trace_21 rfl (lv_at hl 1 rfl) ?_
    refine zcV (As := [.int (nI i)]) (rest := []) (ci := 9) E cy_Coast_entry kw_521 kw_522 kw_520 (c_Coast_entry l dC dI c1 c2 c3 A aC aD aE d (wxR c3 aX aC aA ad n kk ht tk so lt sto ni ac bl) t (nI i) i rfl (Nat.lt_of_lt_of_le hi0 t.2.2)) hK hP hD hS 0 rfl zC_Coast.1 rfl rfl hl.1 rfl (Nat.le_of_ble_eq_true rfl) ⟨Nat.le_of_ble_eq_true rfl, Nat.le_of_ble_eq_true rfl⟩ d_X_trace_22 ⟨Nat.le_refl _, Nat.le_refl _⟩ (fun H locs hP hD hS => ?_)
    have hP : va_P (dC, dI) classes (wx c1 c2 c3 aX aC aD aE aA ad d n kk ht tk so lt sto ni ac bl t) H := hP
    have hD : va_D A (wx c1 c2 c3 aX aC aD aE aA ad d n kk ht tk so lt sto ni ac bl t) := hD
    refine lv_goto (tgt := 29) hx hb d_X_trace_25 (by decide) ?_
    exact zri E hK hP hD hS d_X_trace_29
  · have e9 : traceA (d, n, kk, ht, tk, so, lt, sto, ni, ac, bl, t) x = -1 := by show (if _ then _ else _) = _; rw [if_neg h1]
    rw [e9]
    refine zM_of "CoastLamps" rfl (by decide) (Nat.le_of_ble_eq_true rfl) ?_
    intro p e s m below meth c ls E hP hK hD hS hl
    obtain ⟨hx, hb, hml, ho, hts, hr, hlk⟩ := id E
    have hl : lv_has ls 2 [(0, .ref aX), (1, .int x)] := hl
    refine lv_iload_n hx hb d_X_trace_0 rfl (lv_at hl 1 rfl) ?_
    refine lv_iconst (v := 0) hx hb d_X_trace_1 (by decide) ?_
    refine lv_aload_n hx hb d_X_trace_2 rfl (lv_at hl 0 rfl) ?_
    refine zget (ci := 10) (fs := [.ref aC, .ref aA, .int (nI n), .int ni, .int ac, .int bl, .long sto]) E hK hP 3 rfl zC_X 0 (by decide) kw_43 (Or.inl rfl) rfl d_X_trace_3 ?_
    refine zget (ci := 9) (fs := [.ref aD, .ref aE, .int (nI t.2.1)]) E hK hP 0 rfl zC_Coast 2 (by decide) kw_32 (Or.inl rfl) rfl d_X_trace_6 ?_
    refine lv_iconst (v := 1) hx hb d_X_trace_9 (by decide) ?_
    refine lv_isub hx hb d_X_trace_10 ?_
    refine zcS (As := [.int x, .int 0, .int ((nI t.2.1) - 1)]) (rest := []) E cy_X_within kw_70 kw_69 rfl (c_X_within l dC dI (t3 c1 c2 c3) A (wx c1 c2 c3 aX aC aD aE aA ad d n kk ht tk so lt sto ni ac bl t) x 0 ((nI t.2.1) - 1)) hK hP hD hS rfl hl.1 rfl (Nat.le_of_ble_eq_true rfl) ⟨Nat.le_of_ble_eq_true rfl, Nat.le_of_ble_eq_true rfl⟩ d_X_trace_11 ⟨Nat.le_refl _, Nat.le_refl _⟩ (fun H locs hP hD hS => ?_)
    rw [show zb (decide (0 ≤ x ∧ x ≤ (nI t.2.1) - 1)) = 0 from by rw [decide_eq_false (h1)]; rfl]
    refine lv_if_eq (tgt := 28) hx hb d_X_trace_14 (by decide) (fun _ => ?_) (fun h9 => absurd (rfl) h9)
    refine lv_iconst (v := (-1)) hx hb d_X_trace_28 (by decide) ?_
    exact zri E hK hP hD hS d_X_trace_29
set_option maxHeartbeats 1000000 in
set_option maxRecDepth 100000 in
theorem c_X_haul (l : Launch) (dC : Nat → ClassId) (dI : Nat → Nat → Nat) (c1 c2 c3 : ClassId) (A : Nat → Prop) (aX aC aD aE aA : Nat) (ad : Nat → Nat) (d : Nat → Int32) (n : Nat) (kk : Nat → Nat) (ht tk so lt : Nat → Int32) (sto : Int64) (ni ac bl : Int32) (t : zT) (hI : zInv (d, n, kk, ht, tk, so, lt, sto, ni, ac, bl, t)) (x : Int32) : zM l y_X_haul b_X_haul 2 (some (FieldType.long)) 1 22 [.ref aX, .int x] (dC, dI) (t3 c1 c2 c3) A (xW c1 c2 c3 aX aC aD aE aA ad (d, n, kk, ht, tk, so, lt, sto, ni, ac, bl, t)) (xW c1 c2 c3 aX aC aD aE aA ad (haulA (d, n, kk, ht, tk, so, lt, sto, ni, ac, bl, t) x).2) (some (.long (haulA (d, n, kk, ht, tk, so, lt, sto, ni, ac, bl, t) x).1)) := by
  obtain ⟨hn, hkk, hz⟩ : n ≤ 60 ∧ (∀ i, i < n → kk i < 9) ∧ ∀ i, n ≤ i → tk i = 0 ∧ so i = 0 ∧ lt i = 0 := hI
  by_cases h1 : 1 ≤ x ∧ x ≤ 100000
  · have e9 : haulA (d, n, kk, ht, tk, so, lt, sto, ni, ac, bl, t) x = (sto + x.toInt64, (d, n, kk, ht, tk, so, lt, sto + x.toInt64, ni, ac, bl, t)) := by show (if _ then _ else _) = _; rw [if_pos h1]
    rw [e9]
    refine zM_of "CoastLamps" rfl (by decide) (Nat.le_of_ble_eq_true rfl) ?_
    intro p e s m below meth c ls E hP hK hD hS hl
    obtain ⟨hx, hb, hml, ho, hts, hr, hlk⟩ := id E
    have hl : lv_has ls 2 [(0, .ref aX), (1, .int x)] := hl
    refine lv_iload_n hx hb d_X_haul_0 rfl (lv_at hl 1 rfl) ?_
    refine lv_iconst (v := 1) hx hb d_X_haul_1 (by decide) ?_
    refine lv_ldc hx hb ho (hts _ kw_528) d_X_haul_2 ?_
    refine zcS (As := [.int x, .int 1, .int 100000]) (rest := []) E cy_X_within kw_70 kw_69 rfl (c_X_within l dC dI (t3 c1 c2 c3) A (wx c1 c2 c3 aX aC aD aE aA ad d n kk ht tk so lt sto ni ac bl t) x 1 100000) hK hP hD hS rfl hl.1 rfl (Nat.le_of_ble_eq_true rfl) ⟨Nat.le_of_ble_eq_true rfl, Nat.le_of_ble_eq_true rfl⟩ d_X_haul_4 ⟨Nat.le_refl _, Nat.le_refl _⟩ (fun H locs hP hD hS => ?_)
    rw [show zb (decide (1 ≤ x ∧ x ≤ 100000)) = 1 from by rw [decide_eq_true (h1)]; rfl]
    refine lv_if_ne (tgt := 14) hx hb d_X_haul_7 (by decide) (fun _ => ?_) (fun h9 => absurd h9 (by decide))
    refine lv_aload_n hx hb d_X_haul_14 rfl (lv_at hl 0 rfl) ?_
    refine lv_dup hx hb d_X_haul_15 rfl ?_
    refine zget (ci := 10) (fs := [.ref aC, .ref aA, .int (nI n), .int ni, .int ac, .int bl, .long sto]) E hK hP 3 rfl zC_X 6 (by decide) kw_49 (Or.inl rfl) rfl d_X_haul_16 ?_
    refine lv_iload_n hx hb d_X_haul_19 rfl (lv_at hl 1 rfl) ?_
    refine lv_i2l (v := (x : Int32).toInt64) hx hb d_X_haul_20 rfl ?_
    refine lv_ladd hx hb d_X_haul_21 ?_
    refine zput (ci := 10) (fs := [.ref aC, .ref aA, .int (nI n), .int ni, .int ac, .int bl, .long sto]) (ty := .long) (v := .long (sto + ((x : Int32).toInt64))) (ws2 := wx c1 c2 c3 aX aC aD aE aA ad d n kk ht tk so lt (sto + ((x : Int32).toInt64)) ni ac bl t) E hK hP hD hS 3 rfl zC_X t_X o_X n_X 6 (by decide) kw_49 (Or.inl rfl) rfl rfl rfl rfl (Nat.le_of_ble_eq_true rfl) d_X_haul_22 (rfl) (fun H locs hP hD hS => ?_)
    refine lv_aload_n hx hb d_X_haul_25 rfl (lv_at hl 0 rfl) ?_
    refine zget (ci := 10) (fs := [.ref aC, .ref aA, .int (nI n), .int ni, .int ac, .int bl, .long (sto + ((x : Int32).toInt64))]) E hK hP 3 rfl zC_X 6 (by decide) kw_49 (Or.inl rfl) rfl d_X_haul_26 ?_
    exact zrl E hK hP hD hS d_X_haul_29
  · have e9 : haulA (d, n, kk, ht, tk, so, lt, sto, ni, ac, bl, t) x = (zNONE, (d, n, kk, ht, tk, so, lt, sto, ni, ac, bl, t)) := by show (if _ then _ else _) = _; rw [if_neg h1]
    rw [e9]
    refine zM_of "CoastLamps" rfl (by decide) (Nat.le_of_ble_eq_true rfl) ?_
    intro p e s m below meth c ls E hP hK hD hS hl
    obtain ⟨hx, hb, hml, ho, hts, hr, hlk⟩ := id E
    have hl : lv_has ls 2 [(0, .ref aX), (1, .int x)] := hl
    refine lv_iload_n hx hb d_X_haul_0 rfl (lv_at hl 1 rfl) ?_
    refine lv_iconst (v := 1) hx hb d_X_haul_1 (by decide) ?_
    refine lv_ldc hx hb ho (hts _ kw_528) d_X_haul_2 ?_
    refine zcS (As := [.int x, .int 1, .int 100000]) (rest := []) E cy_X_within kw_70 kw_69 rfl (c_X_within l dC dI (t3 c1 c2 c3) A (wx c1 c2 c3 aX aC aD aE aA ad d n kk ht tk so lt sto ni ac bl t) x 1 100000) hK hP hD hS rfl hl.1 rfl (Nat.le_of_ble_eq_true rfl) ⟨Nat.le_of_ble_eq_true rfl, Nat.le_of_ble_eq_true rfl⟩ d_X_haul_4 ⟨Nat.le_refl _, Nat.le_refl _⟩ (fun H locs hP hD hS => ?_)
    rw [show zb (decide (1 ≤ x ∧ x ≤ 100000)) = 0 from by rw [decide_eq_false (h1)]; rfl]
    refine lv_if_ne (tgt := 14) hx hb d_X_haul_7 (by decide) (fun h9 => absurd (rfl) h9) (fun _ => ?_)
    refine lv_ldc2 hx hb ho (hts _ kw_259) d_X_haul_10 ?_
    exact zrl E hK hP hD hS d_X_haul_13
set_option maxHeartbeats 1000000 in
set_option maxRecDepth 100000 in
theorem c_X_fill (l : Launch) (dC : Nat → ClassId) (dI : Nat → Nat → Nat) (c1 c2 c3 : ClassId) (A : Nat → Prop) (aX aC aD aE aA : Nat) (ad : Nat → Nat) (d : Nat → Int32) (n : Nat) (kk : Nat → Nat) (ht tk so lt : Nat → Int32) (sto : Int64) (ni ac bl : Int32) (t : zT) (hI : zInv (d, n, kk, ht, tk, so, lt, sto, ni, ac, bl, t)) (x y : Int32) : zM l y_X_fill b_X_fill 4 (some (FieldType.int)) 2 43 [.ref aX, .int x, .int y] (dC, dI) (t3 c1 c2 c3) A (xW c1 c2 c3 aX aC aD aE aA ad (d, n, kk, ht, tk, so, lt, sto, ni, ac, bl, t)) (xW c1 c2 c3 aX aC aD aE aA ad (fillA (d, n, kk, ht, tk, so, lt, sto, ni, ac, bl, t) x y).2) (some (.int (fillA (d, n, kk, ht, tk, so, lt, sto, ni, ac, bl, t) x y).1)) := by
  obtain ⟨hn, hkk, hz⟩ : n ≤ 60 ∧ (∀ i, i < n → kk i < 9) ∧ ∀ i, n ≤ i → tk i = 0 ∧ so i = 0 ∧ lt i = 0 := hI
  by_cases h1 : 0 ≤ x ∧ x ≤ nI n - 1
  · by_cases h2 : 1 ≤ y ∧ y ≤ 100000
    · obtain ⟨i, hi0, rfl⟩ := isL_of (Nat.le_trans hn (by decide)) h1
      have hi : i < 60 := Nat.lt_of_lt_of_le hi0 hn
      by_cases h3 : y.toInt64 ≤ sto
      · by_cases h4 : tk i + y ≤ 1000000
        · have e9 : fillA (d, n, kk, ht, tk, so, lt, sto, ni, ac, bl, t) (nI i) y = (tk i + y, (d, n, kk, ht, upd tk i (tk i + y), so, lt, sto - y.toInt64, ni, ac, bl, t)) := by show (if _ then _ else _) = _; rw [if_pos ⟨h1, h2⟩, if_pos h3, nI_clamp (i31 hi), if_pos h4]
          rw [e9]
          refine zM_of "CoastLamps" rfl (by decide) (Nat.le_of_ble_eq_true rfl) ?_
          intro p e s m below meth c ls E hP hK hD hS hl
          obtain ⟨hx, hb, hml, ho, hts, hr, hlk⟩ := id E
          have hl : lv_has ls 4 [(0, .ref aX), (1, .int (nI i)), (2, .int y)] := hl
          refine lv_aload_n hx hb d_X_fill_0 rfl (lv_at hl 0 rfl) ?_
          refine lv_iload_n hx hb d_X_fill_1 rfl (lv_at hl 1 rfl) ?_
          refine zcV (As := [.int (nI i)]) (rest := []) (ci := 10) E cy_X_lampAt kw_257 ks_1 kw_255 (c_X_lampAt_t l dC dI c1 c2 c3 A aX aC aD aE aA ad d n kk ht tk so lt sto ni ac bl t hn i hi0) hK hP hD hS 3 rfl zC_X.1 rfl rfl hl.1 rfl (Nat.le_of_ble_eq_true rfl) ⟨Nat.le_of_ble_eq_true rfl, Nat.le_of_ble_eq_true rfl⟩ d_X_fill_2 ⟨Nat.le_refl _, Nat.le_refl _⟩ (fun H locs hP hD hS => ?_)
          refine lv_astore_n (lv' := [(3, .ref (ad i)), (0, .ref aX), (1, .int (nI i)), (2, .int y)]) hx hb d_X_fill_5 rfl hl (by decide) rfl (fun ls hl => ?_)
          refine lv_aload_n hx hb d_X_fill_6 rfl (lv_at hl 0 rfl) ?_
          refine lv_ifnull hx hb d_X_fill_7 ?_
          refine lv_iload_n hx hb d_X_fill_10 rfl (lv_at hl 3 rfl) ?_
          refine lv_iconst (v := 1) hx hb d_X_fill_11 (by decide) ?_
          refine lv_ldc hx hb ho (hts _ kw_528) d_X_fill_12 ?_
          refine zcS (As := [.int y, .int 1, .int 100000]) (rest := []) E cy_X_within kw_70 kw_69 rfl (c_X_within l dC dI (t3 c1 c2 c3) A (wx c1 c2 c3 aX aC aD aE aA ad d n kk ht tk so lt sto ni ac bl t) y 1 100000) hK hP hD hS rfl hl.1 rfl (Nat.le_of_ble_eq_true rfl) ⟨Nat.le_of_ble_eq_true rfl, Nat.le_of_ble_eq_true rfl⟩ d_X_fill_14 ⟨Nat.le_refl _, Nat.le_refl _⟩ (fun H locs hP hD hS => ?_)
          rw [show zb (decide (1 ≤ y ∧ y ≤ 100000)) = 1 from by rw [decide_eq_true (h2)]; rfl]
          refine lv_if_ne (tgt := 22) hx hb d_X_fill_17 (by decide) (fun _ => ?_) (fun h9 => absurd h9 (by decide))
          refine lv_aload_n hx hb d_X_fill_22 rfl (lv_at hl 1 rfl) ?_
          refine zget (ci := 10) (fs := [.ref aC, .ref aA, .int (nI n), .int ni, .int ac, .int bl, .long sto]) E hK hP 3 rfl zC_X 6 (by decide) kw_49 (Or.inl rfl) rfl d_X_fill_23 ?_
          refine lv_iload_n hx hb d_X_fill_26 rfl (lv_at hl 3 rfl) ?_
          refine lv_i2l (v := (y : Int32).toInt64) hx hb d_X_fill_27 rfl ?_
          refine W.lcmp hx hb d_X_fill_28 ?_
          refine lv_if_ge (tgt := 35) hx hb d_X_fill_29 (by decide) (fun _ => ?_) (fun h9 => absurd ((lg_cmp_ge _ _).mpr h3) h9)
          refine lv_aload_n hx hb d_X_fill_35 rfl (lv_at hl 0 rfl) ?_
          refine zget (ci := (kk i)) (fs := [.ref aC, .int (nI (kk i + 1)), .int (ht i), .int (tk i), .int (so i), .int (lt i)]) E hK hP (i + 5) (x_at hi0) (zC_K (hkk i hi0)) 3 (by decide) kw_123 (Or.inl rfl) rfl d_X_fill_36 ?_
          refine lv_iload_n hx hb d_X_fill_39 rfl (lv_at hl 3 rfl) ?_
          refine lv_iadd hx hb d_X_fill_40 ?_
          refine lv_ldc hx hb ho (hts _ kw_533) d_X_fill_41 ?_
          refine lv_icmp_le (tgt := 49) hx hb d_X_fill_43 (by decide) (fun _ => ?_) (fun h9 => absurd (h4) h9)
          refine lv_aload_n hx hb d_X_fill_49 rfl (lv_at hl 1 rfl) ?_
          refine lv_dup hx hb d_X_fill_50 rfl ?_
          refine zget (ci := 10) (fs := [.ref aC, .ref aA, .int (nI n), .int ni, .int ac, .int bl, .long sto]) E hK hP 3 rfl zC_X 6 (by decide) kw_49 (Or.inl rfl) rfl d_X_fill_51 ?_
          refine lv_iload_n hx hb d_X_fill_54 rfl (lv_at hl 3 rfl) ?_
          refine lv_i2l (v := (y : Int32).toInt64) hx hb d_X_fill_55 rfl ?_
          refine lv_lsub hx hb d_X_fill_56 ?_
          refine zput (ci := 10) (fs := [.ref aC, .ref aA, .int (nI n), .int ni, .int ac, .int bl, .long sto]) (ty := .long) (v := .long (sto - ((y : Int32).toInt64))) (ws2 := wx c1 c2 c3 aX aC aD aE aA ad d n kk ht tk so lt (sto - ((y : Int32).toInt64)) ni ac bl t) E hK hP hD hS 3 rfl zC_X t_X o_X n_X 6 (by decide) kw_49 (Or.inl rfl) rfl rfl rfl rfl (Nat.le_of_ble_eq_true rfl) d_X_fill_57 (rfl) (fun H locs hP hD hS => ?_)
          refine lv_aload_n hx hb d_X_fill_60 rfl (lv_at hl 0 rfl) ?_
          refine lv_dup hx hb d_X_fill_61 rfl ?_
          refine zget (ci := (kk i)) (fs := [.ref aC, .int (nI (kk i + 1)), .int (ht i), .int (tk i), .int (so i), .int (lt i)]) E hK hP (i + 5) (x_at hi0) (zC_K (hkk i hi0)) 3 (by decide) kw_123 (Or.inl rfl) rfl d_X_fill_62 ?_
          refine lv_iload_n hx hb d_X_fill_65 rfl (lv_at hl 3 rfl) ?_
          refine lv_iadd hx hb d_X_fill_66 ?_
          refine zput (ci := (kk i)) (fs := [.ref aC, .int (nI (kk i + 1)), .int (ht i), .int (tk i), .int (so i), .int (lt i)]) (ty := .int) (v := .int ((tk i) + y)) (ws2 := wx c1 c2 c3 aX aC aD aE aA ad d n kk ht (upd tk i ((tk i) + y)) so lt (sto - ((y : Int32).toInt64)) ni ac bl t) E hK hP hD hS (i + 5) (x_at hi0) (zC_K (hkk i hi0)) t_Lamp o_Lamp n_Lamp 3 (by decide) kw_123 (Or.inl rfl) rfl rfl rfl rfl (Nat.le_of_ble_eq_true rfl) d_X_fill_67 (x_setT i _) (fun H locs hP hD hS => ?_)
          refine lv_aload_n hx hb d_X_fill_70 rfl (lv_at hl 0 rfl) ?_
          refine zget (ci := (kk i)) (fs := [.ref aC, .int (nI (kk i + 1)), .int (ht i), .int ((upd tk i ((tk i) + y)) i), .int (so i), .int (lt i)]) E hK hP (i + 5) (x_at hi0) (zC_K (hkk i hi0)) 3 (by decide) kw_123 (Or.inl rfl) rfl d_X_fill_71 ?_
          rw [pk_us]
          exact zri E hK hP hD hS d_X_fill_74
        · have e9 : fillA (d, n, kk, ht, tk, so, lt, sto, ni, ac, bl, t) (nI i) y = (-2, (d, n, kk, ht, tk, so, lt, sto, ni, ac, bl, t)) := by show (if _ then _ else _) = _; rw [if_pos ⟨h1, h2⟩, if_pos h3, nI_clamp (i31 hi), if_neg h4]
          rw [e9]
          refine zM_of "CoastLamps" rfl (by decide) (Nat.le_of_ble_eq_true rfl) ?_
          intro p e s m below meth c ls E hP hK hD hS hl
          obtain ⟨hx, hb, hml, ho, hts, hr, hlk⟩ := id E
          have hl : lv_has ls 4 [(0, .ref aX), (1, .int (nI i)), (2, .int y)] := hl
          refine lv_aload_n hx hb d_X_fill_0 rfl (lv_at hl 0 rfl) ?_
          refine lv_iload_n hx hb d_X_fill_1 rfl (lv_at hl 1 rfl) ?_
          refine zcV (As := [.int (nI i)]) (rest := []) (ci := 10) E cy_X_lampAt kw_257 ks_1 kw_255 (c_X_lampAt_t l dC dI c1 c2 c3 A aX aC aD aE aA ad d n kk ht tk so lt sto ni ac bl t hn i hi0) hK hP hD hS 3 rfl zC_X.1 rfl rfl hl.1 rfl (Nat.le_of_ble_eq_true rfl) ⟨Nat.le_of_ble_eq_true rfl, Nat.le_of_ble_eq_true rfl⟩ d_X_fill_2 ⟨Nat.le_refl _, Nat.le_refl _⟩ (fun H locs hP hD hS => ?_)
          refine lv_astore_n (lv' := [(3, .ref (ad i)), (0, .ref aX), (1, .int (nI i)), (2, .int y)]) hx hb d_X_fill_5 rfl hl (by decide) rfl (fun ls hl => ?_)
          refine lv_aload_n hx hb d_X_fill_6 rfl (lv_at hl 0 rfl) ?_
          refine lv_ifnull hx hb d_X_fill_7 ?_
          refine lv_iload_n hx hb d_X_fill_10 rfl (lv_at hl 3 rfl) ?_
          refine lv_iconst (v := 1) hx hb d_X_fill_11 (by decide) ?_
          refine lv_ldc hx hb ho (hts _ kw_528) d_X_fill_12 ?_
          refine zcS (As := [.int y, .int 1, .int 100000]) (rest := []) E cy_X_within kw_70 kw_69 rfl (c_X_within l dC dI (t3 c1 c2 c3) A (wx c1 c2 c3 aX aC aD aE aA ad d n kk ht tk so lt sto ni ac bl t) y 1 100000) hK hP hD hS rfl hl.1 rfl (Nat.le_of_ble_eq_true rfl) ⟨Nat.le_of_ble_eq_true rfl, Nat.le_of_ble_eq_true rfl⟩ d_X_fill_14 ⟨Nat.le_refl _, Nat.le_refl _⟩ (fun H locs hP hD hS => ?_)
          rw [show zb (decide (1 ≤ y ∧ y ≤ 100000)) = 1 from by rw [decide_eq_true (h2)]; rfl]
          refine lv_if_ne (tgt := 22) hx hb d_X_fill_17 (by decide) (fun _ => ?_) (fun h9 => absurd h9 (by decide))
          refine lv_aload_n hx hb d_X_fill_22 rfl (lv_at hl 1 rfl) ?_
          refine zget (ci := 10) (fs := [.ref aC, .ref aA, .int (nI n), .int ni, .int ac, .int bl, .long sto]) E hK hP 3 rfl zC_X 6 (by decide) kw_49 (Or.inl rfl) rfl d_X_fill_23 ?_
          refine lv_iload_n hx hb d_X_fill_26 rfl (lv_at hl 3 rfl) ?_
          refine lv_i2l (v := (y : Int32).toInt64) hx hb d_X_fill_27 rfl ?_
          refine W.lcmp hx hb d_X_fill_28 ?_
          refine lv_if_ge (tgt := 35) hx hb d_X_fill_29 (by decide) (fun _ => ?_) (fun h9 => absurd ((lg_cmp_ge _ _).mpr h3) h9)
          refine lv_aload_n hx hb d_X_fill_35 rfl (lv_at hl 0 rfl) ?_
          refine zget (ci := (kk i)) (fs := [.ref aC, .int (nI (kk i + 1)), .int (ht i), .int (tk i), .int (so i), .int (lt i)]) E hK hP (i + 5) (x_at hi0) (zC_K (hkk i hi0)) 3 (by decide) kw_123 (Or.inl rfl) rfl d_X_fill_36 ?_
          refine lv_iload_n hx hb d_X_fill_39 rfl (lv_at hl 3 rfl) ?_
          refine lv_iadd hx hb d_X_fill_40 ?_
          refine lv_ldc hx hb ho (hts _ kw_533) d_X_fill_41 ?_
          refine lv_icmp_le (tgt := 49) hx hb d_X_fill_43 (by decide) (fun h9 => absurd h9 (h4)) (fun _ => ?_)
          refine lv_bipush (v := (-2)) hx hb d_X_fill_46 (by decide) ?_
          exact zri E hK hP hD hS d_X_fill_48
      · have e9 : fillA (d, n, kk, ht, tk, so, lt, sto, ni, ac, bl, t) (nI i) y = (-3, (d, n, kk, ht, tk, so, lt, sto, ni, ac, bl, t)) := by show (if _ then _ else _) = _; rw [if_pos ⟨h1, h2⟩, if_neg h3]
        rw [e9]
        refine zM_of "CoastLamps" rfl (by decide) (Nat.le_of_ble_eq_true rfl) ?_
        intro p e s m below meth c ls E hP hK hD hS hl
        obtain ⟨hx, hb, hml, ho, hts, hr, hlk⟩ := id E
        have hl : lv_has ls 4 [(0, .ref aX), (1, .int (nI i)), (2, .int y)] := hl
        refine lv_aload_n hx hb d_X_fill_0 rfl (lv_at hl 0 rfl) ?_
        refine lv_iload_n hx hb d_X_fill_1 rfl (lv_at hl 1 rfl) ?_
        refine zcV (As := [.int (nI i)]) (rest := []) (ci := 10) E cy_X_lampAt kw_257 ks_1 kw_255 (c_X_lampAt_t l dC dI c1 c2 c3 A aX aC aD aE aA ad d n kk ht tk so lt sto ni ac bl t hn i hi0) hK hP hD hS 3 rfl zC_X.1 rfl rfl hl.1 rfl (Nat.le_of_ble_eq_true rfl) ⟨Nat.le_of_ble_eq_true rfl, Nat.le_of_ble_eq_true rfl⟩ d_X_fill_2 ⟨Nat.le_refl _, Nat.le_refl _⟩ (fun H locs hP hD hS => ?_)
        refine lv_astore_n (lv' := [(3, .ref (ad i)), (0, .ref aX), (1, .int (nI i)), (2, .int y)]) hx hb d_X_fill_5 rfl hl (by decide) rfl (fun ls hl => ?_)
        refine lv_aload_n hx hb d_X_fill_6 rfl (lv_at hl 0 rfl) ?_
        refine lv_ifnull hx hb d_X_fill_7 ?_
        refine lv_iload_n hx hb d_X_fill_10 rfl (lv_at hl 3 rfl) ?_
        refine lv_iconst (v := 1) hx hb d_X_fill_11 (by decide) ?_
        refine lv_ldc hx hb ho (hts _ kw_528) d_X_fill_12 ?_
        refine zcS (As := [.int y, .int 1, .int 100000]) (rest := []) E cy_X_within kw_70 kw_69 rfl (c_X_within l dC dI (t3 c1 c2 c3) A (wx c1 c2 c3 aX aC aD aE aA ad d n kk ht tk so lt sto ni ac bl t) y 1 100000) hK hP hD hS rfl hl.1 rfl (Nat.le_of_ble_eq_true rfl) ⟨Nat.le_of_ble_eq_true rfl, Nat.le_of_ble_eq_true rfl⟩ d_X_fill_14 ⟨Nat.le_refl _, Nat.le_refl _⟩ (fun H locs hP hD hS => ?_)
        rw [show zb (decide (1 ≤ y ∧ y ≤ 100000)) = 1 from by rw [decide_eq_true (h2)]; rfl]
        refine lv_if_ne (tgt := 22) hx hb d_X_fill_17 (by decide) (fun _ => ?_) (fun h9 => absurd h9 (by decide))
        refine lv_aload_n hx hb d_X_fill_22 rfl (lv_at hl 1 rfl) ?_
        refine zget (ci := 10) (fs := [.ref aC, .ref aA, .int (nI n), .int ni, .int ac, .int bl, .long sto]) E hK hP 3 rfl zC_X 6 (by decide) kw_49 (Or.inl rfl) rfl d_X_fill_23 ?_
        refine lv_iload_n hx hb d_X_fill_26 rfl (lv_at hl 3 rfl) ?_
        refine lv_i2l (v := (y : Int32).toInt64) hx hb d_X_fill_27 rfl ?_
        refine W.lcmp hx hb d_X_fill_28 ?_
        refine lv_if_ge (tgt := 35) hx hb d_X_fill_29 (by decide) (fun h9 => absurd h9 (fun h => h3 ((lg_cmp_ge _ _).mp h))) (fun _ => ?_)
        refine lv_bipush (v := (-3)) hx hb d_X_fill_32 (by decide) ?_
        exact zri E hK hP hD hS d_X_fill_34
    · obtain ⟨i, hi0, rfl⟩ := isL_of (Nat.le_trans hn (by decide)) h1
      have e9 : fillA (d, n, kk, ht, tk, so, lt, sto, ni, ac, bl, t) (nI i) y = (-1, (d, n, kk, ht, tk, so, lt, sto, ni, ac, bl, t)) := by show (if _ then _ else _) = _; rw [if_neg (fun h => h2 h.2)]
      rw [e9]
      refine zM_of "CoastLamps" rfl (by decide) (Nat.le_of_ble_eq_true rfl) ?_
      intro p e s m below meth c ls E hP hK hD hS hl
      obtain ⟨hx, hb, hml, ho, hts, hr, hlk⟩ := id E
      have hl : lv_has ls 4 [(0, .ref aX), (1, .int (nI i)), (2, .int y)] := hl
      refine lv_aload_n hx hb d_X_fill_0 rfl (lv_at hl 0 rfl) ?_
      refine lv_iload_n hx hb d_X_fill_1 rfl (lv_at hl 1 rfl) ?_
      refine zcV (As := [.int (nI i)]) (rest := []) (ci := 10) E cy_X_lampAt kw_257 ks_1 kw_255 (c_X_lampAt_t l dC dI c1 c2 c3 A aX aC aD aE aA ad d n kk ht tk so lt sto ni ac bl t hn i hi0) hK hP hD hS 3 rfl zC_X.1 rfl rfl hl.1 rfl (Nat.le_of_ble_eq_true rfl) ⟨Nat.le_of_ble_eq_true rfl, Nat.le_of_ble_eq_true rfl⟩ d_X_fill_2 ⟨Nat.le_refl _, Nat.le_refl _⟩ (fun H locs hP hD hS => ?_)
      refine lv_astore_n (lv' := [(3, .ref (ad i)), (0, .ref aX), (1, .int (nI i)), (2, .int y)]) hx hb d_X_fill_5 rfl hl (by decide) rfl (fun ls hl => ?_)
      refine lv_aload_n hx hb d_X_fill_6 rfl (lv_at hl 0 rfl) ?_
      refine lv_ifnull hx hb d_X_fill_7 ?_
      refine lv_iload_n hx hb d_X_fill_10 rfl (lv_at hl 3 rfl) ?_
      refine lv_iconst (v := 1) hx hb d_X_fill_11 (by decide) ?_
      refine lv_ldc hx hb ho (hts _ kw_528) d_X_fill_12 ?_
      refine zcS (As := [.int y, .int 1, .int 100000]) (rest := []) E cy_X_within kw_70 kw_69 rfl (c_X_within l dC dI (t3 c1 c2 c3) A (wx c1 c2 c3 aX aC aD aE aA ad d n kk ht tk so lt sto ni ac bl t) y 1 100000) hK hP hD hS rfl hl.1 rfl (Nat.le_of_ble_eq_true rfl) ⟨Nat.le_of_ble_eq_true rfl, Nat.le_of_ble_eq_true rfl⟩ d_X_fill_14 ⟨Nat.le_refl _, Nat.le_refl _⟩ (fun H locs hP hD hS => ?_)
      rw [show zb (decide (1 ≤ y ∧ y ≤ 100000)) = 0 from by rw [decide_eq_false (h2)]; rfl]
      refine lv_if_ne (tgt := 22) hx hb d_X_fill_17 (by decide) (fun h9 => absurd (rfl) h9) (fun _ => ?_)
      refine lv_iconst (v := (-1)) hx hb d_X_fill_20 (by decide) ?_
      exact zri E hK hP hD hS d_X_fill_21
  · have e9 : fillA (d, n, kk, ht, tk, so, lt, sto, ni, ac, bl, t) x y = (-1, (d, n, kk, ht, tk, so, lt, sto, ni, ac, bl, t)) := by show (if _ then _ else _) = _; rw [if_neg (fun h => h1 h.1)]
    rw [e9]
    refine zM_of "CoastLamps" rfl (by decide) (Nat.le_of_ble_eq_true rfl) ?_
    intro p e s m below meth c ls E hP hK hD hS hl
    obtain ⟨hx, hb, hml, ho, hts, hr, hlk⟩ := id E
    have hl : lv_has ls 4 [(0, .ref aX), (1, .int x), (2, .int y)] := hl
    refine lv_aload_n hx hb d_X_fill_0 rfl (lv_at hl 0 rfl) ?_
    refine lv_iload_n hx hb d_X_fill_1 rfl (lv_at hl 1 rfl) ?_
    refine zcV (As := [.int x]) (rest := []) (ci := 10) E cy_X_lampAt kw_257 ks_1 kw_255 (c_X_lampAt_f l dC dI c1 c2 c3 A aX aC aD aE aA ad d n kk ht tk so lt sto ni ac bl t x h1) hK hP hD hS 3 rfl zC_X.1 rfl rfl hl.1 rfl (Nat.le_of_ble_eq_true rfl) ⟨Nat.le_of_ble_eq_true rfl, Nat.le_of_ble_eq_true rfl⟩ d_X_fill_2 ⟨Nat.le_refl _, Nat.le_refl _⟩ (fun H locs hP hD hS => ?_)
    refine lv_astore_nN (lv' := [(3, .null), (0, .ref aX), (1, .int x), (2, .int y)]) hx hb d_X_fill_5 rfl hl (by decide) rfl (fun ls hl => ?_)
    refine lv_aload_nN hx hb d_X_fill_6 rfl (lv_at hl 0 rfl) ?_
    refine lv_ifnullN (tgt := 20) hx hb d_X_fill_7 (by decide) ?_
    refine lv_iconst (v := (-1)) hx hb d_X_fill_20 (by decide) ?_
    exact zri E hK hP hD hS d_X_fill_21
set_option maxHeartbeats 1000000 in
set_option maxRecDepth 100000 in
theorem c_X_light (l : Launch) (dC : Nat → ClassId) (dI : Nat → Nat → Nat) (c1 c2 c3 : ClassId) (A : Nat → Prop) (aX aC aD aE aA : Nat) (ad : Nat → Nat) (d : Nat → Int32) (n : Nat) (kk : Nat → Nat) (ht tk so lt : Nat → Int32) (sto : Int64) (ni ac bl : Int32) (t : zT) (hI : zInv (d, n, kk, ht, tk, so, lt, sto, ni, ac, bl, t)) (x y : Int32) (hy : y = 0 ∨ y = 1) : zM l y_X_light b_X_light 4 (some (FieldType.int)) 2 43 [.ref aX, .int x, .int y] (dC, dI) (t3 c1 c2 c3) A (xW c1 c2 c3 aX aC aD aE aA ad (d, n, kk, ht, tk, so, lt, sto, ni, ac, bl, t)) (xW c1 c2 c3 aX aC aD aE aA ad (lightA (d, n, kk, ht, tk, so, lt, sto, ni, ac, bl, t) x y).2) (some (.int (lightA (d, n, kk, ht, tk, so, lt, sto, ni, ac, bl, t) x y).1)) := by
  obtain ⟨hn, hkk, hz⟩ : n ≤ 60 ∧ (∀ i, i < n → kk i < 9) ∧ ∀ i, n ≤ i → tk i = 0 ∧ so i = 0 ∧ lt i = 0 := hI
  by_cases h1 : 0 ≤ x ∧ x ≤ nI n - 1
  · obtain ⟨i, hi0, rfl⟩ := isL_of (Nat.le_trans hn (by decide)) h1
    have hi : i < 60 := Nat.lt_of_lt_of_le hi0 hn
    by_cases h3 : lt i = y
    · have e9 : lightA (d, n, kk, ht, tk, so, lt, sto, ni, ac, bl, t) (nI i) y = (0, (d, n, kk, ht, tk, so, lt, sto, ni, ac, bl, t)) := by show (if _ then _ else _) = _; rw [if_pos h1, nI_clamp (i31 hi), if_pos h3]
      rw [e9]
      refine zM_of "CoastLamps" rfl (by decide) (Nat.le_of_ble_eq_true rfl) ?_
      intro p e s m below meth c ls E hP hK hD hS hl
      obtain ⟨hx, hb, hml, ho, hts, hr, hlk⟩ := id E
      have hl : lv_has ls 4 [(0, .ref aX), (1, .int (nI i)), (2, .int y)] := hl
      refine lv_aload_n hx hb d_X_light_0 rfl (lv_at hl 0 rfl) ?_
      refine lv_iload_n hx hb d_X_light_1 rfl (lv_at hl 1 rfl) ?_
      refine zcV (As := [.int (nI i)]) (rest := []) (ci := 10) E cy_X_lampAt kw_257 ks_1 kw_255 (c_X_lampAt_t l dC dI c1 c2 c3 A aX aC aD aE aA ad d n kk ht tk so lt sto ni ac bl t hn i hi0) hK hP hD hS 3 rfl zC_X.1 rfl rfl hl.1 rfl (Nat.le_of_ble_eq_true rfl) ⟨Nat.le_of_ble_eq_true rfl, Nat.le_of_ble_eq_true rfl⟩ d_X_light_2 ⟨Nat.le_refl _, Nat.le_refl _⟩ (fun H locs hP hD hS => ?_)
      refine lv_astore_n (lv' := [(3, .ref (ad i)), (0, .ref aX), (1, .int (nI i)), (2, .int y)]) hx hb d_X_light_5 rfl hl (by decide) rfl (fun ls hl => ?_)
      refine lv_aload_n hx hb d_X_light_6 rfl (lv_at hl 0 rfl) ?_
      refine lv_ifnonnull (tgt := 12) hx hb d_X_light_7 (by decide) ?_
      refine lv_aload_n hx hb d_X_light_12 rfl (lv_at hl 0 rfl) ?_
      refine zget (ci := (kk i)) (fs := [.ref aC, .int (nI (kk i + 1)), .int (ht i), .int (tk i), .int (so i), .int (lt i)]) E hK hP (i + 5) (x_at hi0) (zC_K (hkk i hi0)) 5 (by decide) kw_133 (Or.inl rfl) rfl d_X_light_13 ?_
      refine lv_iload_n hx hb d_X_light_16 rfl (lv_at hl 3 rfl) ?_
      refine lv_icmp_ne (tgt := 22) hx hb d_X_light_17 (by decide) (fun h9 => absurd (h3) h9) (fun _ => ?_)
      refine lv_iconst (v := 0) hx hb d_X_light_20 (by decide) ?_
      exact zri E hK hP hD hS d_X_light_21
    · by_cases h4 : y = 0
      · have e9 : lightA (d, n, kk, ht, tk, so, lt, sto, ni, ac, bl, t) (nI i) y = (1, (d, n, kk, ht, tk, so, upd lt i y, sto, ni, ac, bl, t)) := by show (if _ then _ else _) = _; rw [if_pos h1, nI_clamp (i31 hi), if_neg h3, if_neg (fun h => h.1 h4)]
        rw [e9]
        refine zM_of "CoastLamps" rfl (by decide) (Nat.le_of_ble_eq_true rfl) ?_
        intro p e s m below meth c ls E hP hK hD hS hl
        obtain ⟨hx, hb, hml, ho, hts, hr, hlk⟩ := id E
        have hl : lv_has ls 4 [(0, .ref aX), (1, .int (nI i)), (2, .int y)] := hl
        refine lv_aload_n hx hb d_X_light_0 rfl (lv_at hl 0 rfl) ?_
        refine lv_iload_n hx hb d_X_light_1 rfl (lv_at hl 1 rfl) ?_
        refine zcV (As := [.int (nI i)]) (rest := []) (ci := 10) E cy_X_lampAt kw_257 ks_1 kw_255 (c_X_lampAt_t l dC dI c1 c2 c3 A aX aC aD aE aA ad d n kk ht tk so lt sto ni ac bl t hn i hi0) hK hP hD hS 3 rfl zC_X.1 rfl rfl hl.1 rfl (Nat.le_of_ble_eq_true rfl) ⟨Nat.le_of_ble_eq_true rfl, Nat.le_of_ble_eq_true rfl⟩ d_X_light_2 ⟨Nat.le_refl _, Nat.le_refl _⟩ (fun H locs hP hD hS => ?_)
        refine lv_astore_n (lv' := [(3, .ref (ad i)), (0, .ref aX), (1, .int (nI i)), (2, .int y)]) hx hb d_X_light_5 rfl hl (by decide) rfl (fun ls hl => ?_)
        refine lv_aload_n hx hb d_X_light_6 rfl (lv_at hl 0 rfl) ?_
        refine lv_ifnonnull (tgt := 12) hx hb d_X_light_7 (by decide) ?_
        refine lv_aload_n hx hb d_X_light_12 rfl (lv_at hl 0 rfl) ?_
        refine zget (ci := (kk i)) (fs := [.ref aC, .int (nI (kk i + 1)), .int (ht i), .int (tk i), .int (so i), .int (lt i)]) E hK hP (i + 5) (x_at hi0) (zC_K (hkk i hi0)) 5 (by decide) kw_133 (Or.inl rfl) rfl d_X_light_13 ?_
        refine lv_iload_n hx hb d_X_light_16 rfl (lv_at hl 3 rfl) ?_
        refine lv_icmp_ne (tgt := 22) hx hb d_X_light_17 (by decide) (fun _ => ?_) (fun h9 => absurd h9 (h3))
        refine lv_iload_n hx hb d_X_light_22 rfl (lv_at hl 3 rfl) ?_
        refine lv_if_eq (tgt := 36) hx hb d_X_light_23 (by decide) (fun _ => ?_) (fun h9 => absurd (h4) h9)
        refine lv_aload_n hx hb d_X_light_36 rfl (lv_at hl 0 rfl) ?_
        refine lv_iload_n hx hb d_X_light_37 rfl (lv_at hl 3 rfl) ?_
        refine zput (ci := (kk i)) (fs := [.ref aC, .int (nI (kk i + 1)), .int (ht i), .int (tk i), .int (so i), .int (lt i)]) (ty := .boolean) (v := .int y) (ws2 := wx c1 c2 c3 aX aC aD aE aA ad d n kk ht tk so (upd lt i y) sto ni ac bl t) E hK hP hD hS (i + 5) (x_at hi0) (zC_K (hkk i hi0)) t_Lamp o_Lamp n_Lamp 5 (by decide) kw_133 (Or.inl rfl) rfl rfl (by rcases hy with rfl | rfl <;> rfl) (by rcases hy with rfl | rfl <;> rfl) (Nat.le_of_ble_eq_true rfl) d_X_light_38 (x_setL i _) (fun H locs hP hD hS => ?_)
        refine lv_iconst (v := 1) hx hb d_X_light_41 (by decide) ?_
        exact zri E hK hP hD hS d_X_light_42
      · by_cases h5 : tk i = 0
        · have e9 : lightA (d, n, kk, ht, tk, so, lt, sto, ni, ac, bl, t) (nI i) y = (-3, (d, n, kk, ht, tk, so, lt, sto, ni, ac, bl, t)) := by show (if _ then _ else _) = _; rw [if_pos h1, nI_clamp (i31 hi), if_neg h3, if_pos ⟨h4, h5⟩]
          rw [e9]
          refine zM_of "CoastLamps" rfl (by decide) (Nat.le_of_ble_eq_true rfl) ?_
          intro p e s m below meth c ls E hP hK hD hS hl
          obtain ⟨hx, hb, hml, ho, hts, hr, hlk⟩ := id E
          have hl : lv_has ls 4 [(0, .ref aX), (1, .int (nI i)), (2, .int y)] := hl
          refine lv_aload_n hx hb d_X_light_0 rfl (lv_at hl 0 rfl) ?_
          refine lv_iload_n hx hb d_X_light_1 rfl (lv_at hl 1 rfl) ?_
          refine zcV (As := [.int (nI i)]) (rest := []) (ci := 10) E cy_X_lampAt kw_257 ks_1 kw_255 (c_X_lampAt_t l dC dI c1 c2 c3 A aX aC aD aE aA ad d n kk ht tk so lt sto ni ac bl t hn i hi0) hK hP hD hS 3 rfl zC_X.1 rfl rfl hl.1 rfl (Nat.le_of_ble_eq_true rfl) ⟨Nat.le_of_ble_eq_true rfl, Nat.le_of_ble_eq_true rfl⟩ d_X_light_2 ⟨Nat.le_refl _, Nat.le_refl _⟩ (fun H locs hP hD hS => ?_)
          refine lv_astore_n (lv' := [(3, .ref (ad i)), (0, .ref aX), (1, .int (nI i)), (2, .int y)]) hx hb d_X_light_5 rfl hl (by decide) rfl (fun ls hl => ?_)
          refine lv_aload_n hx hb d_X_light_6 rfl (lv_at hl 0 rfl) ?_
          refine lv_ifnonnull (tgt := 12) hx hb d_X_light_7 (by decide) ?_
          refine lv_aload_n hx hb d_X_light_12 rfl (lv_at hl 0 rfl) ?_
          refine zget (ci := (kk i)) (fs := [.ref aC, .int (nI (kk i + 1)), .int (ht i), .int (tk i), .int (so i), .int (lt i)]) E hK hP (i + 5) (x_at hi0) (zC_K (hkk i hi0)) 5 (by decide) kw_133 (Or.inl rfl) rfl d_X_light_13 ?_
          refine lv_iload_n hx hb d_X_light_16 rfl (lv_at hl 3 rfl) ?_
          refine lv_icmp_ne (tgt := 22) hx hb d_X_light_17 (by decide) (fun _ => ?_) (fun h9 => absurd h9 (h3))
          refine lv_iload_n hx hb d_X_light_22 rfl (lv_at hl 3 rfl) ?_
          refine lv_if_eq (tgt := 36) hx hb d_X_light_23 (by decide) (fun h9 => absurd h9 (h4)) (fun _ => ?_)
          refine lv_aload_n hx hb d_X_light_26 rfl (lv_at hl 0 rfl) ?_
          refine zget (ci := (kk i)) (fs := [.ref aC, .int (nI (kk i + 1)), .int (ht i), .int (tk i), .int (so i), .int (lt i)]) E hK hP (i + 5) (x_at hi0) (zC_K (hkk i hi0)) 3 (by decide) kw_123 (Or.inl rfl) rfl d_X_light_27 ?_
          refine lv_if_ne (tgt := 36) hx hb d_X_light_30 (by decide) (fun h9 => absurd (h5) h9) (fun _ => ?_)
          refine lv_bipush (v := (-3)) hx hb d_X_light_33 (by decide) ?_
          exact zri E hK hP hD hS d_X_light_35
        · have e9 : lightA (d, n, kk, ht, tk, so, lt, sto, ni, ac, bl, t) (nI i) y = (1, (d, n, kk, ht, tk, so, upd lt i y, sto, ni, ac, bl, t)) := by show (if _ then _ else _) = _; rw [if_pos h1, nI_clamp (i31 hi), if_neg h3, if_neg (fun h => h5 h.2)]
          rw [e9]
          refine zM_of "CoastLamps" rfl (by decide) (Nat.le_of_ble_eq_true rfl) ?_
          intro p e s m below meth c ls E hP hK hD hS hl
          obtain ⟨hx, hb, hml, ho, hts, hr, hlk⟩ := id E
          have hl : lv_has ls 4 [(0, .ref aX), (1, .int (nI i)), (2, .int y)] := hl
          refine lv_aload_n hx hb d_X_light_0 rfl (lv_at hl 0 rfl) ?_
          refine lv_iload_n hx hb d_X_light_1 rfl (lv_at hl 1 rfl) ?_
          refine zcV (As := [.int (nI i)]) (rest := []) (ci := 10) E cy_X_lampAt kw_257 ks_1 kw_255 (c_X_lampAt_t l dC dI c1 c2 c3 A aX aC aD aE aA ad d n kk ht tk so lt sto ni ac bl t hn i hi0) hK hP hD hS 3 rfl zC_X.1 rfl rfl hl.1 rfl (Nat.le_of_ble_eq_true rfl) ⟨Nat.le_of_ble_eq_true rfl, Nat.le_of_ble_eq_true rfl⟩ d_X_light_2 ⟨Nat.le_refl _, Nat.le_refl _⟩ (fun H locs hP hD hS => ?_)
          refine lv_astore_n (lv' := [(3, .ref (ad i)), (0, .ref aX), (1, .int (nI i)), (2, .int y)]) hx hb d_X_light_5 rfl hl (by decide) rfl (fun ls hl => ?_)
          refine lv_aload_n hx hb d_X_light_6 rfl (lv_at hl 0 rfl) ?_
          refine lv_ifnonnull (tgt := 12) hx hb d_X_light_7 (by decide) ?_
          refine lv_aload_n hx hb d_X_light_12 rfl (lv_at hl 0 rfl) ?_
          refine zget (ci := (kk i)) (fs := [.ref aC, .int (nI (kk i + 1)), .int (ht i), .int (tk i), .int (so i), .int (lt i)]) E hK hP (i + 5) (x_at hi0) (zC_K (hkk i hi0)) 5 (by decide) kw_133 (Or.inl rfl) rfl d_X_light_13 ?_
          refine lv_iload_n hx hb d_X_light_16 rfl (lv_at hl 3 rfl) ?_
          refine lv_icmp_ne (tgt := 22) hx hb d_X_light_17 (by decide) (fun _ => ?_) (fun h9 => absurd h9 (h3))
          refine lv_iload_n hx hb d_X_light_22 rfl (lv_at hl 3 rfl) ?_
          refine lv_if_eq (tgt := 36) hx hb d_X_light_23 (by decide) (fun h9 => absurd h9 (h4)) (fun _ => ?_)
          refine lv_aload_n hx hb d_X_light_26 rfl (lv_at hl 0 rfl) ?_
          refine zget (ci := (kk i)) (fs := [.ref aC, .int (nI (kk i + 1)), .int (ht i), .int (tk i), .int (so i), .int (lt i)]) E hK hP (i + 5) (x_at hi0) (zC_K (hkk i hi0)) 3 (by decide) kw_123 (Or.inl rfl) rfl d_X_light_27 ?_
          refine lv_if_ne (tgt := 36) hx hb d_X_light_30 (by decide) (fun _ => ?_) (fun h9 => absurd h9 (h5))
          refine lv_aload_n hx hb d_X_light_36 rfl (lv_at hl 0 rfl) ?_
          refine lv_iload_n hx hb d_X_light_37 rfl (lv_at hl 3 rfl) ?_
          refine zput (ci := (kk i)) (fs := [.ref aC, .int (nI (kk i + 1)), .int (ht i), .int (tk i), .int (so i), .int (lt i)]) (ty := .boolean) (v := .int y) (ws2 := wx c1 c2 c3 aX aC aD aE aA ad d n kk ht tk so (upd lt i y) sto ni ac bl t) E hK hP hD hS (i + 5) (x_at hi0) (zC_K (hkk i hi0)) t_Lamp o_Lamp n_Lamp 5 (by decide) kw_133 (Or.inl rfl) rfl rfl (by rcases hy with rfl | rfl <;> rfl) (by rcases hy with rfl | rfl <;> rfl) (Nat.le_of_ble_eq_true rfl) d_X_light_38 (x_setL i _) (fun H locs hP hD hS => ?_)
          refine lv_iconst (v := 1) hx hb d_X_light_41 (by decide) ?_
          exact zri E hK hP hD hS d_X_light_42
  · have e9 : lightA (d, n, kk, ht, tk, so, lt, sto, ni, ac, bl, t) x y = (-1, (d, n, kk, ht, tk, so, lt, sto, ni, ac, bl, t)) := by show (if _ then _ else _) = _; rw [if_neg h1]
    rw [e9]
    refine zM_of "CoastLamps" rfl (by decide) (Nat.le_of_ble_eq_true rfl) ?_
    intro p e s m below meth c ls E hP hK hD hS hl
    obtain ⟨hx, hb, hml, ho, hts, hr, hlk⟩ := id E
    have hl : lv_has ls 4 [(0, .ref aX), (1, .int x), (2, .int y)] := hl
    refine lv_aload_n hx hb d_X_light_0 rfl (lv_at hl 0 rfl) ?_
    refine lv_iload_n hx hb d_X_light_1 rfl (lv_at hl 1 rfl) ?_
    refine zcV (As := [.int x]) (rest := []) (ci := 10) E cy_X_lampAt kw_257 ks_1 kw_255 (c_X_lampAt_f l dC dI c1 c2 c3 A aX aC aD aE aA ad d n kk ht tk so lt sto ni ac bl t x h1) hK hP hD hS 3 rfl zC_X.1 rfl rfl hl.1 rfl (Nat.le_of_ble_eq_true rfl) ⟨Nat.le_of_ble_eq_true rfl, Nat.le_of_ble_eq_true rfl⟩ d_X_light_2 ⟨Nat.le_refl _, Nat.le_refl _⟩ (fun H locs hP hD hS => ?_)
    refine lv_astore_nN (lv' := [(3, .null), (0, .ref aX), (1, .int x), (2, .int y)]) hx hb d_X_light_5 rfl hl (by decide) rfl (fun ls hl => ?_)
    refine lv_aload_nN hx hb d_X_light_6 rfl (lv_at hl 0 rfl) ?_
    refine lv_ifnonnullN hx hb d_X_light_7 ?_
    refine lv_iconst (v := (-1)) hx hb d_X_light_10 (by decide) ?_
    exact zri E hK hP hD hS d_X_light_11
set_option maxHeartbeats 1000000 in
set_option maxRecDepth 100000 in
theorem c_X_blow (l : Launch) (dC : Nat → ClassId) (dI : Nat → Nat → Nat) (c1 c2 c3 : ClassId) (A : Nat → Prop) (aX aC aD aE aA : Nat) (ad : Nat → Nat) (d : Nat → Int32) (n : Nat) (kk : Nat → Nat) (ht tk so lt : Nat → Int32) (sto : Int64) (ni ac bl : Int32) (t : zT) (hI : zInv (d, n, kk, ht, tk, so, lt, sto, ni, ac, bl, t)) (x y : Int32) : zM l y_X_blow b_X_blow 4 (some (FieldType.int)) 7 160 [.ref aX, .int x, .int y] (dC, dI) (t3 c1 c2 c3) A (xW c1 c2 c3 aX aC aD aE aA ad (d, n, kk, ht, tk, so, lt, sto, ni, ac, bl, t)) (xW c1 c2 c3 aX aC aD aE aA ad (blowA (d, n, kk, ht, tk, so, lt, sto, ni, ac, bl, t) x y).2) (some (.int (blowA (d, n, kk, ht, tk, so, lt, sto, ni, ac, bl, t) x y).1)) := by
  obtain ⟨hn, hkk, hz⟩ : n ≤ 60 ∧ (∀ i, i < n → kk i < 9) ∧ ∀ i, n ≤ i → tk i = 0 ∧ so i = 0 ∧ lt i = 0 := hI
  by_cases h1 : 0 ≤ x ∧ x ≤ nI n - 1
  · obtain ⟨i, hi0, rfl⟩ := isL_of (Nat.le_trans hn (by decide)) h1
    have hi : i < 60 := Nat.lt_of_lt_of_le hi0 hn
    cases hh : hornedK (kk i)
    · have e9 : blowA (d, n, kk, ht, tk, so, lt, sto, ni, ac, bl, t) (nI i) y = (-4, (d, n, kk, ht, tk, so, lt, sto, ni, ac + 1, bl, t0 t)) := by show (if _ then _ else _) = _; rw [if_pos h1, nI_clamp (i31 hi), if_pos hh]
      rw [e9]
      refine zM_of "CoastLamps" rfl (by decide) (Nat.le_of_ble_eq_true rfl) ?_
      intro p e s m below meth c ls E hP hK hD hS hl
      obtain ⟨hx, hb, hml, ho, hts, hr, hlk⟩ := id E
      have hl : lv_has ls 4 [(0, .ref aX), (1, .int (nI i)), (2, .int y)] := hl
      refine lv_aload_n hx hb d_X_blow_0 rfl (lv_at hl 0 rfl) ?_
      refine lv_iload_n hx hb d_X_blow_1 rfl (lv_at hl 1 rfl) ?_
      refine zcV (As := [.int (nI i)]) (rest := []) (ci := 10) E cy_X_lampAt kw_257 ks_1 kw_255 (c_X_lampAt_t l dC dI c1 c2 c3 A aX aC aD aE aA ad d n kk ht tk so lt sto ni ac bl t hn i hi0) hK hP hD hS 3 rfl zC_X.1 rfl rfl hl.1 rfl (Nat.le_of_ble_eq_true rfl) ⟨Nat.le_of_ble_eq_true rfl, Nat.le_of_ble_eq_true rfl⟩ d_X_blow_2 ⟨Nat.le_refl _, Nat.le_refl _⟩ (fun H locs hP hD hS => ?_)
      refine lv_astore_n (lv' := [(3, .ref (ad i)), (0, .ref aX), (1, .int (nI i)), (2, .int y)]) hx hb d_X_blow_5 rfl hl (by decide) rfl (fun ls hl => ?_)
      refine lv_aload_n hx hb d_X_blow_6 rfl (lv_at hl 0 rfl) ?_
      refine lv_ifnonnull (tgt := 12) hx hb d_X_blow_7 (by decide) ?_
      refine lv_aload_n hx hb d_X_blow_12 rfl (lv_at hl 1 rfl) ?_
      refine zcV (As := []) (rest := []) (ci := 10) E cy_X_beginAct kw_262 ks_2 kw_260 (c_X_beginAct l dC dI c1 c2 c3 A aX aC aD aE aA ad d n kk ht tk so lt sto ni ac bl t) hK hP hD hS 3 rfl zC_X.1 rfl rfl hl.1 rfl (Nat.le_of_ble_eq_true rfl) ⟨Nat.le_of_ble_eq_true rfl, Nat.le_of_ble_eq_true rfl⟩ d_X_blow_13 ⟨Nat.le_refl _, Nat.le_refl _⟩ (fun H locs hP hD hS => ?_)
      have hP : va_P (dC, dI) classes (wx c1 c2 c3 aX aC aD aE aA ad d n kk ht tk so lt sto ni (ac + 1) bl (t0 t)) H := hP
      have hD : va_D A (wx c1 c2 c3 aX aC aD aE aA ad d n kk ht tk so lt sto ni (ac + 1) bl (t0 t)) := hD
      refine lv_aload_n hx hb d_X_blow_16 rfl (lv_at hl 0 rfl) ?_
      have hP : va_P (dC, dI) classes (wl c1 c2 aC aD aE (ad i) (kk i) d (nI (kk i + 1)) (ht i) (tk i) (lt i) (wxR c3 aX aC aA ad n kk ht tk so lt sto ni (ac + 1) bl) (i + 2) (so i, t0 t)) H := by rw [x_fo]; exact hP
      have hD : va_D A (wl c1 c2 aC aD aE (ad i) (kk i) d (nI (kk i + 1)) (ht i) (tk i) (lt i) (wxR c3 aX aC aA ad n kk ht tk so lt sto ni (ac + 1) bl) (i + 2) (so i, t0 t)) := by rw [x_fo]; exact hD
      refine dv_horned (st := []) E (hkk i hi0) (x_len hi0) kw_268 hK hP hD hS hl.1 (Nat.le_of_ble_eq_true rfl) ⟨Nat.le_of_ble_eq_true rfl, Nat.le_of_ble_eq_true rfl⟩ d_X_blow_17 ⟨Nat.le_refl _, Nat.le_refl _⟩ (fun H locs hP hD hS => ?_)
      rw [x_fo] at hP hD
      rw [hh, show zb false = 0 from rfl]
      refine lv_if_ne (tgt := 26) hx hb d_X_blow_20 (by decide) (fun h9 => absurd (rfl) h9) (fun _ => ?_)
      refine lv_bipush (v := (-4)) hx hb d_X_blow_23 (by decide) ?_
      exact zri E hK hP hD hS d_X_blow_25
    · have e9 : blowA (d, n, kk, ht, tk, so, lt, sto, ni, ac, bl, t) (nI i) y = (1, (d, n, kk, ht, tk, upd so i (hornK (kk i) d (ht i) (tk i) y (so i, t0 t)).2.1, lt, sto, ni, ac + 1, (hornK (kk i) d (ht i) (tk i) y (so i, t0 t)).1, (hornK (kk i) d (ht i) (tk i) y (so i, t0 t)).2.2)) := by show (if _ then _ else _) = _; rw [if_pos h1, nI_clamp (i31 hi), if_neg (by rw [hh]; decide)]
      rw [e9]
      refine zM_of "CoastLamps" rfl (by decide) (Nat.le_of_ble_eq_true rfl) ?_
      intro p e s m below meth c ls E hP hK hD hS hl
      obtain ⟨hx, hb, hml, ho, hts, hr, hlk⟩ := id E
      have hl : lv_has ls 4 [(0, .ref aX), (1, .int (nI i)), (2, .int y)] := hl
      refine lv_aload_n hx hb d_X_blow_0 rfl (lv_at hl 0 rfl) ?_
      refine lv_iload_n hx hb d_X_blow_1 rfl (lv_at hl 1 rfl) ?_
      refine zcV (As := [.int (nI i)]) (rest := []) (ci := 10) E cy_X_lampAt kw_257 ks_1 kw_255 (c_X_lampAt_t l dC dI c1 c2 c3 A aX aC aD aE aA ad d n kk ht tk so lt sto ni ac bl t hn i hi0) hK hP hD hS 3 rfl zC_X.1 rfl rfl hl.1 rfl (Nat.le_of_ble_eq_true rfl) ⟨Nat.le_of_ble_eq_true rfl, Nat.le_of_ble_eq_true rfl⟩ d_X_blow_2 ⟨Nat.le_refl _, Nat.le_refl _⟩ (fun H locs hP hD hS => ?_)
      refine lv_astore_n (lv' := [(3, .ref (ad i)), (0, .ref aX), (1, .int (nI i)), (2, .int y)]) hx hb d_X_blow_5 rfl hl (by decide) rfl (fun ls hl => ?_)
      refine lv_aload_n hx hb d_X_blow_6 rfl (lv_at hl 0 rfl) ?_
      refine lv_ifnonnull (tgt := 12) hx hb d_X_blow_7 (by decide) ?_
      refine lv_aload_n hx hb d_X_blow_12 rfl (lv_at hl 1 rfl) ?_
      refine zcV (As := []) (rest := []) (ci := 10) E cy_X_beginAct kw_262 ks_2 kw_260 (c_X_beginAct l dC dI c1 c2 c3 A aX aC aD aE aA ad d n kk ht tk so lt sto ni ac bl t) hK hP hD hS 3 rfl zC_X.1 rfl rfl hl.1 rfl (Nat.le_of_ble_eq_true rfl) ⟨Nat.le_of_ble_eq_true rfl, Nat.le_of_ble_eq_true rfl⟩ d_X_blow_13 ⟨Nat.le_refl _, Nat.le_refl _⟩ (fun H locs hP hD hS => ?_)
      have hP : va_P (dC, dI) classes (wx c1 c2 c3 aX aC aD aE aA ad d n kk ht tk so lt sto ni (ac + 1) bl (t0 t)) H := hP
      have hD : va_D A (wx c1 c2 c3 aX aC aD aE aA ad d n kk ht tk so lt sto ni (ac + 1) bl (t0 t)) := hD
      refine lv_aload_n hx hb d_X_blow_16 rfl (lv_at hl 0 rfl) ?_
      have hP : va_P (dC, dI) classes (wl c1 c2 aC aD aE (ad i) (kk i) d (nI (kk i + 1)) (ht i) (tk i) (lt i) (wxR c3 aX aC aA ad n kk ht tk so lt sto ni (ac + 1) bl) (i + 2) (so i, t0 t)) H := by rw [x_fo]; exact hP
      have hD : va_D A (wl c1 c2 aC aD aE (ad i) (kk i) d (nI (kk i + 1)) (ht i) (tk i) (lt i) (wxR c3 aX aC aA ad n kk ht tk so lt sto ni (ac + 1) bl) (i + 2) (so i, t0 t)) := by rw [x_fo]; exact hD
      refine dv_horned (st := []) E (hkk i hi0) (x_len hi0) kw_268 hK hP hD hS hl.1 (Nat.le_of_ble_eq_true rfl) ⟨Nat.le_of_ble_eq_true rfl, Nat.le_of_ble_eq_true rfl⟩ d_X_blow_17 ⟨Nat.le_refl _, Nat.le_refl _⟩ (fun H locs hP hD hS => ?_)
      rw [x_fo] at hP hD
      rw [hh, show zb true = 1 from rfl]
      refine lv_if_ne (tgt := 26) hx hb d_X_blow_20 (by decide) (fun _ => ?_) (fun h9 => absurd h9 (by decide))
      refine lv_aload_n hx hb d_X_blow_26 rfl (lv_at hl 1 rfl) ?_
      refine lv_aload_n hx hb d_X_blow_27 rfl (lv_at hl 0 rfl) ?_
      refine lv_iload_n hx hb d_X_blow_28 rfl (lv_at hl 3 rfl) ?_
      have hP : va_P (dC, dI) classes (wl c1 c2 aC aD aE (ad i) (kk i) d (nI (kk i + 1)) (ht i) (tk i) (lt i) (wxR c3 aX aC aA ad n kk ht tk so lt sto ni (ac + 1) bl) (i + 2) (so i, t0 t)) H := by rw [x_fo]; exact hP
      have hD : va_D A (wl c1 c2 aC aD aE (ad i) (kk i) d (nI (kk i + 1)) (ht i) (tk i) (lt i) (wxR c3 aX aC aA ad n kk ht tk so lt sto ni (ac + 1) bl) (i + 2) (so i, t0 t)) := by rw [x_fo]; exact hD
      refine dv_horn (x := y) (st := [.ref aX]) E (hkk i hi0) hh (x_len hi0) kw_467 hK hP hD hS hl.1 (Nat.le_of_ble_eq_true rfl) ⟨Nat.le_of_ble_eq_true rfl, Nat.le_of_ble_eq_true rfl⟩ d_X_blow_29 ⟨Nat.le_refl _, Nat.le_refl _⟩ (fun H locs hP hD hS => ?_)
      rw [x_un, upd_me tk i, upd_me lt i] at hP hD
      have hP : va_P (dC, dI) classes (wx c1 c2 c3 aX aC aD aE aA ad d n kk ht tk (upd so i (hornK (kk i) d (ht i) (tk i) y (so i, t0 t)).2.1) lt sto ni (ac + 1) bl ((hornK (kk i) d (ht i) (tk i) y (so i, t0 t)).2.2)) H := hP
      have hD : va_D A (wx c1 c2 c3 aX aC aD aE aA ad d n kk ht tk (upd so i (hornK (kk i) d (ht i) (tk i) y (so i, t0 t)).2.1) lt sto ni (ac + 1) bl ((hornK (kk i) d (ht i) (tk i) y (so i, t0 t)).2.2)) := hD
      refine zput (ci := 10) (fs := [.ref aC, .ref aA, .int (nI n), .int ni, .int (ac + 1), .int bl, .long sto]) (ty := .int) (v := .int ((hornK (kk i) d (ht i) (tk i) y (so i, t0 t)).1)) (ws2 := wx c1 c2 c3 aX aC aD aE aA ad d n kk ht tk (upd so i (hornK (kk i) d (ht i) (tk i) y (so i, t0 t)).2.1) lt sto ni (ac + 1) ((hornK (kk i) d (ht i) (tk i) y (so i, t0 t)).1) ((hornK (kk i) d (ht i) (tk i) y (so i, t0 t)).2.2)) E hK hP hD hS 3 rfl zC_X t_X o_X n_X 5 (by decide) kw_48 (Or.inl rfl) rfl rfl rfl rfl (Nat.le_of_ble_eq_true rfl) d_X_blow_32 (rfl) (fun H locs hP hD hS => ?_)
      refine lv_iconst (v := 1) hx hb d_X_blow_35 (by decide) ?_
      exact zri E hK hP hD hS d_X_blow_36
  · have e9 : blowA (d, n, kk, ht, tk, so, lt, sto, ni, ac, bl, t) x y = (-1, (d, n, kk, ht, tk, so, lt, sto, ni, ac, bl, t)) := by show (if _ then _ else _) = _; rw [if_neg h1]
    rw [e9]
    refine zM_of "CoastLamps" rfl (by decide) (Nat.le_of_ble_eq_true rfl) ?_
    intro p e s m below meth c ls E hP hK hD hS hl
    obtain ⟨hx, hb, hml, ho, hts, hr, hlk⟩ := id E
    have hl : lv_has ls 4 [(0, .ref aX), (1, .int x), (2, .int y)] := hl
    refine lv_aload_n hx hb d_X_blow_0 rfl (lv_at hl 0 rfl) ?_
    refine lv_iload_n hx hb d_X_blow_1 rfl (lv_at hl 1 rfl) ?_
    refine zcV (As := [.int x]) (rest := []) (ci := 10) E cy_X_lampAt kw_257 ks_1 kw_255 (c_X_lampAt_f l dC dI c1 c2 c3 A aX aC aD aE aA ad d n kk ht tk so lt sto ni ac bl t x h1) hK hP hD hS 3 rfl zC_X.1 rfl rfl hl.1 rfl (Nat.le_of_ble_eq_true rfl) ⟨Nat.le_of_ble_eq_true rfl, Nat.le_of_ble_eq_true rfl⟩ d_X_blow_2 ⟨Nat.le_refl _, Nat.le_refl _⟩ (fun H locs hP hD hS => ?_)
    refine lv_astore_nN (lv' := [(3, .null), (0, .ref aX), (1, .int x), (2, .int y)]) hx hb d_X_blow_5 rfl hl (by decide) rfl (fun ls hl => ?_)
    refine lv_aload_nN hx hb d_X_blow_6 rfl (lv_at hl 0 rfl) ?_
    refine lv_ifnonnullN hx hb d_X_blow_7 ?_
    refine lv_iconst (v := (-1)) hx hb d_X_blow_10 (by decide) ?_
    exact zri E hK hP hD hS d_X_blow_11
set_option maxHeartbeats 1000000 in
set_option maxRecDepth 100000 in
theorem c_X_blown (l : Launch) (dC : Nat → ClassId) (dI : Nat → Nat → Nat) (c1 c2 c3 : ClassId) (A : Nat → Prop) (aX aC aD aE aA : Nat) (ad : Nat → Nat) (d : Nat → Int32) (n : Nat) (kk : Nat → Nat) (ht tk so lt : Nat → Int32) (sto : Int64) (ni ac bl : Int32) (t : zT) (hI : zInv (d, n, kk, ht, tk, so, lt, sto, ni, ac, bl, t)) : zM l y_X_blown b_X_blown 1 (some (FieldType.int)) 0 0 [.ref aX] (dC, dI) (t3 c1 c2 c3) A (xW c1 c2 c3 aX aC aD aE aA ad (d, n, kk, ht, tk, so, lt, sto, ni, ac, bl, t)) (xW c1 c2 c3 aX aC aD aE aA ad (d, n, kk, ht, tk, so, lt, sto, ni, ac, bl, t)) (some (.int (blownA (d, n, kk, ht, tk, so, lt, sto, ni, ac, bl, t)))) := by
  obtain ⟨hn, hkk, hz⟩ : n ≤ 60 ∧ (∀ i, i < n → kk i < 9) ∧ ∀ i, n ≤ i → tk i = 0 ∧ so i = 0 ∧ lt i = 0 := hI
  refine zM_of "CoastLamps" rfl (by decide) (Nat.le_of_ble_eq_true rfl) ?_
  intro p e s m below meth c ls E hP hK hD hS hl
  obtain ⟨hx, hb, hml, ho, hts, hr, hlk⟩ := id E
  have hl : lv_has ls 1 [(0, .ref aX)] := hl
  refine lv_aload_n hx hb d_X_blown_0 rfl (lv_at hl 0 rfl) ?_
  refine zget (ci := 10) (fs := [.ref aC, .ref aA, .int (nI n), .int ni, .int ac, .int bl, .long sto]) E hK hP 3 rfl zC_X 5 (by decide) kw_48 (Or.inl rfl) rfl d_X_blown_1 ?_
  exact zri E hK hP hD hS d_X_blown_4
set_option maxHeartbeats 1000000 in
set_option maxRecDepth 100000 in
theorem c_X_store (l : Launch) (dC : Nat → ClassId) (dI : Nat → Nat → Nat) (c1 c2 c3 : ClassId) (A : Nat → Prop) (aX aC aD aE aA : Nat) (ad : Nat → Nat) (d : Nat → Int32) (n : Nat) (kk : Nat → Nat) (ht tk so lt : Nat → Int32) (sto : Int64) (ni ac bl : Int32) (t : zT) (hI : zInv (d, n, kk, ht, tk, so, lt, sto, ni, ac, bl, t)) : zM l y_X_store b_X_store 1 (some (FieldType.long)) 0 0 [.ref aX] (dC, dI) (t3 c1 c2 c3) A (xW c1 c2 c3 aX aC aD aE aA ad (d, n, kk, ht, tk, so, lt, sto, ni, ac, bl, t)) (xW c1 c2 c3 aX aC aD aE aA ad (d, n, kk, ht, tk, so, lt, sto, ni, ac, bl, t)) (some (.long (storeA (d, n, kk, ht, tk, so, lt, sto, ni, ac, bl, t)))) := by
  obtain ⟨hn, hkk, hz⟩ : n ≤ 60 ∧ (∀ i, i < n → kk i < 9) ∧ ∀ i, n ≤ i → tk i = 0 ∧ so i = 0 ∧ lt i = 0 := hI
  refine zM_of "CoastLamps" rfl (by decide) (Nat.le_of_ble_eq_true rfl) ?_
  intro p e s m below meth c ls E hP hK hD hS hl
  obtain ⟨hx, hb, hml, ho, hts, hr, hlk⟩ := id E
  have hl : lv_has ls 1 [(0, .ref aX)] := hl
  refine lv_aload_n hx hb d_X_store_0 rfl (lv_at hl 0 rfl) ?_
  refine zget (ci := 10) (fs := [.ref aC, .ref aA, .int (nI n), .int ni, .int ac, .int bl, .long sto]) E hK hP 3 rfl zC_X 6 (by decide) kw_49 (Or.inl rfl) rfl d_X_store_1 ?_
  exact zrl E hK hP hD hS d_X_store_4
theorem sw_out3 {y : Int32} (g0 : ¬ y = 0) (g1 : ¬ y = 1) (g2 : ¬ y = 2) (g3 : ¬ y = 3) : y.toInt < 0 ∨ 3 < y.toInt := by
  have a0 := lv_neT g0 (a := 0) (by decide)
  have a1 := lv_neT g1 (a := 1) (by decide)
  have a2 := lv_neT g2 (a := 2) (by decide)
  have a3 := lv_neT g3 (a := 3) (by decide)
  omega
set_option maxHeartbeats 1000000 in
set_option maxRecDepth 100000 in
theorem c_X_count (l : Launch) (dC : Nat → ClassId) (dI : Nat → Nat → Nat) (c1 c2 c3 : ClassId) (A : Nat → Prop) (aX aC aD aE aA : Nat) (ad : Nat → Nat) (d : Nat → Int32) (n : Nat) (kk : Nat → Nat) (ht tk so lt : Nat → Int32) (sto : Int64) (ni ac bl : Int32) (t : zT) (hI : zInv (d, n, kk, ht, tk, so, lt, sto, ni, ac, bl, t)) (y : Int32) : zM l y_X_count b_X_count 2 (some (FieldType.int)) 0 0 [.ref aX, .int y] (dC, dI) (t3 c1 c2 c3) A (xW c1 c2 c3 aX aC aD aE aA ad (d, n, kk, ht, tk, so, lt, sto, ni, ac, bl, t)) (xW c1 c2 c3 aX aC aD aE aA ad (d, n, kk, ht, tk, so, lt, sto, ni, ac, bl, t)) (some (.int (countA (d, n, kk, ht, tk, so, lt, sto, ni, ac, bl, t) y))) := by
  obtain ⟨hn, hkk, hz⟩ : n ≤ 60 ∧ (∀ i, i < n → kk i < 9) ∧ ∀ i, n ≤ i → tk i = 0 ∧ so i = 0 ∧ lt i = 0 := hI
  by_cases h0 : y = 0
  · have e9 : countA (d, n, kk, ht, tk, so, lt, sto, ni, ac, bl, t) y = nI n := by show (if _ then _ else _) = _; rw [if_pos h0]
    rw [e9]
    refine zM_of "CoastLamps" rfl (by decide) (Nat.le_of_ble_eq_true rfl) ?_
    intro p e s m below meth c ls E hP hK hD hS hl
    obtain ⟨hx, hb, hml, ho, hts, hr, hlk⟩ := id E
    have hl : lv_has ls 2 [(0, .ref aX), (1, .int y)] := hl
    refine lv_iload_n hx hb d_X_count_0 rfl (lv_at hl 1 rfl) ?_
    refine lv_tableIn (off := 31) (tgt := 32) hx hb d_X_count_1 (by rw [h0]; decide) (by rw [h0]; decide) (by rw [h0]; decide) (by decide) ?_
    refine lv_aload_n hx hb d_X_count_32 rfl (lv_at hl 0 rfl) ?_
    refine zget (ci := 10) (fs := [.ref aC, .ref aA, .int (nI n), .int ni, .int ac, .int bl, .long sto]) E hK hP 3 rfl zC_X 2 (by decide) kw_45 (Or.inl rfl) rfl d_X_count_33 ?_
    exact zri E hK hP hD hS d_X_count_36
  · by_cases h1 : y = 1
    · have e9 : countA (d, n, kk, ht, tk, so, lt, sto, ni, ac, bl, t) y = ni := by show (if _ then _ else _) = _; rw [if_neg h0, if_pos h1]
      rw [e9]
      refine zM_of "CoastLamps" rfl (by decide) (Nat.le_of_ble_eq_true rfl) ?_
      intro p e s m below meth c ls E hP hK hD hS hl
      obtain ⟨hx, hb, hml, ho, hts, hr, hlk⟩ := id E
      have hl : lv_has ls 2 [(0, .ref aX), (1, .int y)] := hl
      refine lv_iload_n hx hb d_X_count_0 rfl (lv_at hl 1 rfl) ?_
      refine lv_tableIn (off := 36) (tgt := 37) hx hb d_X_count_1 (by rw [h1]; decide) (by rw [h1]; decide) (by rw [h1]; decide) (by decide) ?_
      refine lv_aload_n hx hb d_X_count_37 rfl (lv_at hl 0 rfl) ?_
      refine zget (ci := 10) (fs := [.ref aC, .ref aA, .int (nI n), .int ni, .int ac, .int bl, .long sto]) E hK hP 3 rfl zC_X 3 (by decide) kw_46 (Or.inl rfl) rfl d_X_count_38 ?_
      exact zri E hK hP hD hS d_X_count_41
    · by_cases h2 : y = 2
      · have e9 : countA (d, n, kk, ht, tk, so, lt, sto, ni, ac, bl, t) y = nI t.2.1 := by show (if _ then _ else _) = _; rw [if_neg h0, if_neg h1, if_pos h2]
        rw [e9]
        refine zM_of "CoastLamps" rfl (by decide) (Nat.le_of_ble_eq_true rfl) ?_
        intro p e s m below meth c ls E hP hK hD hS hl
        obtain ⟨hx, hb, hml, ho, hts, hr, hlk⟩ := id E
        have hl : lv_has ls 2 [(0, .ref aX), (1, .int y)] := hl
        refine lv_iload_n hx hb d_X_count_0 rfl (lv_at hl 1 rfl) ?_
        refine lv_tableIn (off := 41) (tgt := 42) hx hb d_X_count_1 (by rw [h2]; decide) (by rw [h2]; decide) (by rw [h2]; decide) (by decide) ?_
        refine lv_aload_n hx hb d_X_count_42 rfl (lv_at hl 0 rfl) ?_
        refine zget (ci := 10) (fs := [.ref aC, .ref aA, .int (nI n), .int ni, .int ac, .int bl, .long sto]) E hK hP 3 rfl zC_X 0 (by decide) kw_43 (Or.inl rfl) rfl d_X_count_43 ?_
        refine zget (ci := 9) (fs := [.ref aD, .ref aE, .int (nI t.2.1)]) E hK hP 0 rfl zC_Coast 2 (by decide) kw_32 (Or.inl rfl) rfl d_X_count_46 ?_
        exact zri E hK hP hD hS d_X_count_49
      · by_cases h3 : y = 3
        · have e9 : countA (d, n, kk, ht, tk, so, lt, sto, ni, ac, bl, t) y = ac := by show (if _ then _ else _) = _; rw [if_neg h0, if_neg h1, if_neg h2, if_pos h3]
          rw [e9]
          refine zM_of "CoastLamps" rfl (by decide) (Nat.le_of_ble_eq_true rfl) ?_
          intro p e s m below meth c ls E hP hK hD hS hl
          obtain ⟨hx, hb, hml, ho, hts, hr, hlk⟩ := id E
          have hl : lv_has ls 2 [(0, .ref aX), (1, .int y)] := hl
          refine lv_iload_n hx hb d_X_count_0 rfl (lv_at hl 1 rfl) ?_
          refine lv_tableIn (off := 49) (tgt := 50) hx hb d_X_count_1 (by rw [h3]; decide) (by rw [h3]; decide) (by rw [h3]; decide) (by decide) ?_
          refine lv_aload_n hx hb d_X_count_50 rfl (lv_at hl 0 rfl) ?_
          refine zget (ci := 10) (fs := [.ref aC, .ref aA, .int (nI n), .int ni, .int ac, .int bl, .long sto]) E hK hP 3 rfl zC_X 4 (by decide) kw_47 (Or.inl rfl) rfl d_X_count_51 ?_
          exact zri E hK hP hD hS d_X_count_54
        · have e9 : countA (d, n, kk, ht, tk, so, lt, sto, ni, ac, bl, t) y = -1 := by show (if _ then _ else _) = _; rw [if_neg h0, if_neg h1, if_neg h2, if_neg h3]
          rw [e9]
          refine zM_of "CoastLamps" rfl (by decide) (Nat.le_of_ble_eq_true rfl) ?_
          intro p e s m below meth c ls E hP hK hD hS hl
          obtain ⟨hx, hb, hml, ho, hts, hr, hlk⟩ := id E
          have hl : lv_has ls 2 [(0, .ref aX), (1, .int y)] := hl
          refine lv_iload_n hx hb d_X_count_0 rfl (lv_at hl 1 rfl) ?_
          refine lv_tableOut (tgt := 55) hx hb d_X_count_1 (sw_out3 h0 h1 h2 h3) (by decide) ?_
          refine lv_iconst (v := (-1)) hx hb d_X_count_55 (by decide) ?_
          exact zri E hK hP hD hS d_X_count_56
set_option maxHeartbeats 1000000 in
set_option maxRecDepth 100000 in
theorem c_X_told (l : Launch) (dC : Nat → ClassId) (dI : Nat → Nat → Nat) (c1 c2 c3 : ClassId) (A : Nat → Prop) (aX aC aD aE aA : Nat) (ad : Nat → Nat) (d : Nat → Int32) (n : Nat) (kk : Nat → Nat) (ht tk so lt : Nat → Int32) (sto : Int64) (ni ac bl : Int32) (t : zT) (hI : zInv (d, n, kk, ht, tk, so, lt, sto, ni, ac, bl, t)) (x y : Int32) : zM l y_X_told b_X_told 4 (some (FieldType.long)) 7 160 [.ref aX, .int x, .int y] (dC, dI) (t3 c1 c2 c3) A (xW c1 c2 c3 aX aC aD aE aA ad (d, n, kk, ht, tk, so, lt, sto, ni, ac, bl, t)) (xW c1 c2 c3 aX aC aD aE aA ad (d, n, kk, ht, tk, so, lt, sto, ni, ac, bl, t)) (some (.long (toldA (d, n, kk, ht, tk, so, lt, sto, ni, ac, bl, t) x y))) := by
  obtain ⟨hn, hkk, hz⟩ : n ≤ 60 ∧ (∀ i, i < n → kk i < 9) ∧ ∀ i, n ≤ i → tk i = 0 ∧ so i = 0 ∧ lt i = 0 := hI
  by_cases h1 : 0 ≤ x ∧ x ≤ nI n - 1
  · obtain ⟨i, hi0, rfl⟩ := isL_of (Nat.le_trans hn (by decide)) h1
    have hi : i < 60 := Nat.lt_of_lt_of_le hi0 hn
    by_cases v0 : y = 0
    · have e9 : toldA (d, n, kk, ht, tk, so, lt, sto, ni, ac, bl, t) (nI i) y = (nI (kk i + 1)).toInt64 := by show (if _ then _ else _) = _; rw [if_pos h1, if_pos v0, nI_clamp (i31 hi)]
      rw [e9]
      refine zM_of "CoastLamps" rfl (by decide) (Nat.le_of_ble_eq_true rfl) ?_
      intro p e s m below meth c ls E hP hK hD hS hl
      obtain ⟨hx, hb, hml, ho, hts, hr, hlk⟩ := id E
      have hl : lv_has ls 4 [(0, .ref aX), (1, .int (nI i)), (2, .int y)] := hl
      refine lv_aload_n hx hb d_X_told_0 rfl (lv_at hl 0 rfl) ?_
      refine lv_iload_n hx hb d_X_told_1 rfl (lv_at hl 1 rfl) ?_
      refine zcV (As := [.int (nI i)]) (rest := []) (ci := 10) E cy_X_lampAt kw_257 ks_1 kw_255 (c_X_lampAt_t l dC dI c1 c2 c3 A aX aC aD aE aA ad d n kk ht tk so lt sto ni ac bl t hn i hi0) hK hP hD hS 3 rfl zC_X.1 rfl rfl hl.1 rfl (Nat.le_of_ble_eq_true rfl) ⟨Nat.le_of_ble_eq_true rfl, Nat.le_of_ble_eq_true rfl⟩ d_X_told_2 ⟨Nat.le_refl _, Nat.le_refl _⟩ (fun H locs hP hD hS => ?_)
      refine lv_astore_n (lv' := [(3, .ref (ad i)), (0, .ref aX), (1, .int (nI i)), (2, .int y)]) hx hb d_X_told_5 rfl hl (by decide) rfl (fun ls hl => ?_)
      refine lv_aload_n hx hb d_X_told_6 rfl (lv_at hl 0 rfl) ?_
      refine lv_ifnonnull (tgt := 14) hx hb d_X_told_7 (by decide) ?_
      refine lv_iload_n hx hb d_X_told_14 rfl (lv_at hl 3 rfl) ?_
      refine lv_tableIn (off := 37) (tgt := 52) hx hb d_X_told_15 (by rw [v0]; decide) (by rw [v0]; decide) (by rw [v0]; decide) (by decide) ?_
      refine lv_aload_n hx hb d_X_told_52 rfl (lv_at hl 0 rfl) ?_
      refine zget (ci := (kk i)) (fs := [.ref aC, .int (nI (kk i + 1)), .int (ht i), .int (tk i), .int (so i), .int (lt i)]) E hK hP (i + 5) (x_at hi0) (zC_K (hkk i hi0)) 1 (by decide) kw_117 (Or.inl rfl) rfl d_X_told_53 ?_
      refine lv_i2l (v := (nI (kk i + 1) : Int32).toInt64) hx hb d_X_told_56 rfl ?_
      exact zrl E hK hP hD hS d_X_told_57
    · by_cases v1 : y = 1
      · have e9 : toldA (d, n, kk, ht, tk, so, lt, sto, ni, ac, bl, t) (nI i) y = (ht i).toInt64 := by show (if _ then _ else _) = _; rw [if_pos h1, if_neg v0, if_pos v1, nI_clamp (i31 hi)]
        rw [e9]
        refine zM_of "CoastLamps" rfl (by decide) (Nat.le_of_ble_eq_true rfl) ?_
        intro p e s m below meth c ls E hP hK hD hS hl
        obtain ⟨hx, hb, hml, ho, hts, hr, hlk⟩ := id E
        have hl : lv_has ls 4 [(0, .ref aX), (1, .int (nI i)), (2, .int y)] := hl
        refine lv_aload_n hx hb d_X_told_0 rfl (lv_at hl 0 rfl) ?_
        refine lv_iload_n hx hb d_X_told_1 rfl (lv_at hl 1 rfl) ?_
        refine zcV (As := [.int (nI i)]) (rest := []) (ci := 10) E cy_X_lampAt kw_257 ks_1 kw_255 (c_X_lampAt_t l dC dI c1 c2 c3 A aX aC aD aE aA ad d n kk ht tk so lt sto ni ac bl t hn i hi0) hK hP hD hS 3 rfl zC_X.1 rfl rfl hl.1 rfl (Nat.le_of_ble_eq_true rfl) ⟨Nat.le_of_ble_eq_true rfl, Nat.le_of_ble_eq_true rfl⟩ d_X_told_2 ⟨Nat.le_refl _, Nat.le_refl _⟩ (fun H locs hP hD hS => ?_)
        refine lv_astore_n (lv' := [(3, .ref (ad i)), (0, .ref aX), (1, .int (nI i)), (2, .int y)]) hx hb d_X_told_5 rfl hl (by decide) rfl (fun ls hl => ?_)
        refine lv_aload_n hx hb d_X_told_6 rfl (lv_at hl 0 rfl) ?_
        refine lv_ifnonnull (tgt := 14) hx hb d_X_told_7 (by decide) ?_
        refine lv_iload_n hx hb d_X_told_14 rfl (lv_at hl 3 rfl) ?_
        refine lv_tableIn (off := 43) (tgt := 58) hx hb d_X_told_15 (by rw [v1]; decide) (by rw [v1]; decide) (by rw [v1]; decide) (by decide) ?_
        refine lv_aload_n hx hb d_X_told_58 rfl (lv_at hl 0 rfl) ?_
        refine zget (ci := (kk i)) (fs := [.ref aC, .int (nI (kk i + 1)), .int (ht i), .int (tk i), .int (so i), .int (lt i)]) E hK hP (i + 5) (x_at hi0) (zC_K (hkk i hi0)) 2 (by decide) kw_119 (Or.inl rfl) rfl d_X_told_59 ?_
        refine lv_i2l (v := (ht i : Int32).toInt64) hx hb d_X_told_62 rfl ?_
        exact zrl E hK hP hD hS d_X_told_63
      · by_cases v2 : y = 2
        · have e9 : toldA (d, n, kk, ht, tk, so, lt, sto, ni, ac, bl, t) (nI i) y = (tk i).toInt64 := by show (if _ then _ else _) = _; rw [if_pos h1, if_neg v0, if_neg v1, if_pos v2, nI_clamp (i31 hi)]
          rw [e9]
          refine zM_of "CoastLamps" rfl (by decide) (Nat.le_of_ble_eq_true rfl) ?_
          intro p e s m below meth c ls E hP hK hD hS hl
          obtain ⟨hx, hb, hml, ho, hts, hr, hlk⟩ := id E
          have hl : lv_has ls 4 [(0, .ref aX), (1, .int (nI i)), (2, .int y)] := hl
          refine lv_aload_n hx hb d_X_told_0 rfl (lv_at hl 0 rfl) ?_
          refine lv_iload_n hx hb d_X_told_1 rfl (lv_at hl 1 rfl) ?_
          refine zcV (As := [.int (nI i)]) (rest := []) (ci := 10) E cy_X_lampAt kw_257 ks_1 kw_255 (c_X_lampAt_t l dC dI c1 c2 c3 A aX aC aD aE aA ad d n kk ht tk so lt sto ni ac bl t hn i hi0) hK hP hD hS 3 rfl zC_X.1 rfl rfl hl.1 rfl (Nat.le_of_ble_eq_true rfl) ⟨Nat.le_of_ble_eq_true rfl, Nat.le_of_ble_eq_true rfl⟩ d_X_told_2 ⟨Nat.le_refl _, Nat.le_refl _⟩ (fun H locs hP hD hS => ?_)
          refine lv_astore_n (lv' := [(3, .ref (ad i)), (0, .ref aX), (1, .int (nI i)), (2, .int y)]) hx hb d_X_told_5 rfl hl (by decide) rfl (fun ls hl => ?_)
          refine lv_aload_n hx hb d_X_told_6 rfl (lv_at hl 0 rfl) ?_
          refine lv_ifnonnull (tgt := 14) hx hb d_X_told_7 (by decide) ?_
          refine lv_iload_n hx hb d_X_told_14 rfl (lv_at hl 3 rfl) ?_
          refine lv_tableIn (off := 49) (tgt := 64) hx hb d_X_told_15 (by rw [v2]; decide) (by rw [v2]; decide) (by rw [v2]; decide) (by decide) ?_
          refine lv_aload_n hx hb d_X_told_64 rfl (lv_at hl 0 rfl) ?_
          refine zget (ci := (kk i)) (fs := [.ref aC, .int (nI (kk i + 1)), .int (ht i), .int (tk i), .int (so i), .int (lt i)]) E hK hP (i + 5) (x_at hi0) (zC_K (hkk i hi0)) 3 (by decide) kw_123 (Or.inl rfl) rfl d_X_told_65 ?_
          refine lv_i2l (v := (tk i : Int32).toInt64) hx hb d_X_told_68 rfl ?_
          exact zrl E hK hP hD hS d_X_told_69
        · by_cases v3 : y = 3
          · have e9 : toldA (d, n, kk, ht, tk, so, lt, sto, ni, ac, bl, t) (nI i) y = (so i).toInt64 := by show (if _ then _ else _) = _; rw [if_pos h1, if_neg v0, if_neg v1, if_neg v2, if_pos v3, nI_clamp (i31 hi)]
            rw [e9]
            refine zM_of "CoastLamps" rfl (by decide) (Nat.le_of_ble_eq_true rfl) ?_
            intro p e s m below meth c ls E hP hK hD hS hl
            obtain ⟨hx, hb, hml, ho, hts, hr, hlk⟩ := id E
            have hl : lv_has ls 4 [(0, .ref aX), (1, .int (nI i)), (2, .int y)] := hl
            refine lv_aload_n hx hb d_X_told_0 rfl (lv_at hl 0 rfl) ?_
            refine lv_iload_n hx hb d_X_told_1 rfl (lv_at hl 1 rfl) ?_
            refine zcV (As := [.int (nI i)]) (rest := []) (ci := 10) E cy_X_lampAt kw_257 ks_1 kw_255 (c_X_lampAt_t l dC dI c1 c2 c3 A aX aC aD aE aA ad d n kk ht tk so lt sto ni ac bl t hn i hi0) hK hP hD hS 3 rfl zC_X.1 rfl rfl hl.1 rfl (Nat.le_of_ble_eq_true rfl) ⟨Nat.le_of_ble_eq_true rfl, Nat.le_of_ble_eq_true rfl⟩ d_X_told_2 ⟨Nat.le_refl _, Nat.le_refl _⟩ (fun H locs hP hD hS => ?_)
            refine lv_astore_n (lv' := [(3, .ref (ad i)), (0, .ref aX), (1, .int (nI i)), (2, .int y)]) hx hb d_X_told_5 rfl hl (by decide) rfl (fun ls hl => ?_)
            refine lv_aload_n hx hb d_X_told_6 rfl (lv_at hl 0 rfl) ?_
            refine lv_ifnonnull (tgt := 14) hx hb d_X_told_7 (by decide) ?_
            refine lv_iload_n hx hb d_X_told_14 rfl (lv_at hl 3 rfl) ?_
            refine lv_tableIn (off := 55) (tgt := 70) hx hb d_X_told_15 (by rw [v3]; decide) (by rw [v3]; decide) (by rw [v3]; decide) (by decide) ?_
            refine lv_aload_n hx hb d_X_told_70 rfl (lv_at hl 0 rfl) ?_
            refine zget (ci := (kk i)) (fs := [.ref aC, .int (nI (kk i + 1)), .int (ht i), .int (tk i), .int (so i), .int (lt i)]) E hK hP (i + 5) (x_at hi0) (zC_K (hkk i hi0)) 4 (by decide) kw_131 (Or.inl rfl) rfl d_X_told_71 ?_
            refine lv_i2l (v := (so i : Int32).toInt64) hx hb d_X_told_74 rfl ?_
            exact zrl E hK hP hD hS d_X_told_75
          · by_cases v4 : y = 4
            · by_cases h6 : lt i = 0
              · have e9 : toldA (d, n, kk, ht, tk, so, lt, sto, ni, ac, bl, t) (nI i) y = 0 := by show (if _ then _ else _) = _; rw [if_pos h1, if_neg v0, if_neg v1, if_neg v2, if_neg v3, if_pos v4, nI_clamp (i31 hi), if_pos h6]
                rw [e9]
                refine zM_of "CoastLamps" rfl (by decide) (Nat.le_of_ble_eq_true rfl) ?_
                intro p e s m below meth c ls E hP hK hD hS hl
                obtain ⟨hx, hb, hml, ho, hts, hr, hlk⟩ := id E
                have hl : lv_has ls 4 [(0, .ref aX), (1, .int (nI i)), (2, .int y)] := hl
                refine lv_aload_n hx hb d_X_told_0 rfl (lv_at hl 0 rfl) ?_
                refine lv_iload_n hx hb d_X_told_1 rfl (lv_at hl 1 rfl) ?_
                refine zcV (As := [.int (nI i)]) (rest := []) (ci := 10) E cy_X_lampAt kw_257 ks_1 kw_255 (c_X_lampAt_t l dC dI c1 c2 c3 A aX aC aD aE aA ad d n kk ht tk so lt sto ni ac bl t hn i hi0) hK hP hD hS 3 rfl zC_X.1 rfl rfl hl.1 rfl (Nat.le_of_ble_eq_true rfl) ⟨Nat.le_of_ble_eq_true rfl, Nat.le_of_ble_eq_true rfl⟩ d_X_told_2 ⟨Nat.le_refl _, Nat.le_refl _⟩ (fun H locs hP hD hS => ?_)
                refine lv_astore_n (lv' := [(3, .ref (ad i)), (0, .ref aX), (1, .int (nI i)), (2, .int y)]) hx hb d_X_told_5 rfl hl (by decide) rfl (fun ls hl => ?_)
                refine lv_aload_n hx hb d_X_told_6 rfl (lv_at hl 0 rfl) ?_
                refine lv_ifnonnull (tgt := 14) hx hb d_X_told_7 (by decide) ?_
                refine lv_iload_n hx hb d_X_told_14 rfl (lv_at hl 3 rfl) ?_
                refine lv_tableIn (off := 61) (tgt := 76) hx hb d_X_told_15 (by rw [v4]; decide) (by rw [v4]; decide) (by rw [v4]; decide) (by decide) ?_
                refine lv_aload_n hx hb d_X_told_76 rfl (lv_at hl 0 rfl) ?_
                refine zget (ci := (kk i)) (fs := [.ref aC, .int (nI (kk i + 1)), .int (ht i), .int (tk i), .int (so i), .int (lt i)]) E hK hP (i + 5) (x_at hi0) (zC_K (hkk i hi0)) 5 (by decide) kw_133 (Or.inl rfl) rfl d_X_told_77 ?_
                refine lv_if_eq (tgt := 87) hx hb d_X_told_80 (by decide) (fun _ => ?_) (fun h9 => absurd (h6) h9)
                refine lv_lconst (v := 0) hx hb d_X_told_87 (by decide) ?_
                exact zrl E hK hP hD hS d_X_told_88
              · have e9 : toldA (d, n, kk, ht, tk, so, lt, sto, ni, ac, bl, t) (nI i) y = 1 := by show (if _ then _ else _) = _; rw [if_pos h1, if_neg v0, if_neg v1, if_neg v2, if_neg v3, if_pos v4, nI_clamp (i31 hi), if_neg h6]
                rw [e9]
                refine zM_of "CoastLamps" rfl (by decide) (Nat.le_of_ble_eq_true rfl) ?_
                intro p e s m below meth c ls E hP hK hD hS hl
                obtain ⟨hx, hb, hml, ho, hts, hr, hlk⟩ := id E
                have hl : lv_has ls 4 [(0, .ref aX), (1, .int (nI i)), (2, .int y)] := hl
                refine lv_aload_n hx hb d_X_told_0 rfl (lv_at hl 0 rfl) ?_
                refine lv_iload_n hx hb d_X_told_1 rfl (lv_at hl 1 rfl) ?_
                refine zcV (As := [.int (nI i)]) (rest := []) (ci := 10) E cy_X_lampAt kw_257 ks_1 kw_255 (c_X_lampAt_t l dC dI c1 c2 c3 A aX aC aD aE aA ad d n kk ht tk so lt sto ni ac bl t hn i hi0) hK hP hD hS 3 rfl zC_X.1 rfl rfl hl.1 rfl (Nat.le_of_ble_eq_true rfl) ⟨Nat.le_of_ble_eq_true rfl, Nat.le_of_ble_eq_true rfl⟩ d_X_told_2 ⟨Nat.le_refl _, Nat.le_refl _⟩ (fun H locs hP hD hS => ?_)
                refine lv_astore_n (lv' := [(3, .ref (ad i)), (0, .ref aX), (1, .int (nI i)), (2, .int y)]) hx hb d_X_told_5 rfl hl (by decide) rfl (fun ls hl => ?_)
                refine lv_aload_n hx hb d_X_told_6 rfl (lv_at hl 0 rfl) ?_
                refine lv_ifnonnull (tgt := 14) hx hb d_X_told_7 (by decide) ?_
                refine lv_iload_n hx hb d_X_told_14 rfl (lv_at hl 3 rfl) ?_
                refine lv_tableIn (off := 61) (tgt := 76) hx hb d_X_told_15 (by rw [v4]; decide) (by rw [v4]; decide) (by rw [v4]; decide) (by decide) ?_
                refine lv_aload_n hx hb d_X_told_76 rfl (lv_at hl 0 rfl) ?_
                refine zget (ci := (kk i)) (fs := [.ref aC, .int (nI (kk i + 1)), .int (ht i), .int (tk i), .int (so i), .int (lt i)]) E hK hP (i + 5) (x_at hi0) (zC_K (hkk i hi0)) 5 (by decide) kw_133 (Or.inl rfl) rfl d_X_told_77 ?_
                refine lv_if_eq (tgt := 87) hx hb d_X_told_80 (by decide) (fun h9 => absurd h9 (h6)) (fun _ => ?_)
                refine lv_lconst (v := 1) hx hb d_X_told_83 (by decide) ?_
                refine lv_goto (tgt := 88) hx hb d_X_told_84 (by decide) ?_
                exact zrl E hK hP hD hS d_X_told_88
            · by_cases v5 : y = 5
              · cases hh : hornedK (kk i)
                · have e9 : toldA (d, n, kk, ht, tk, so, lt, sto, ni, ac, bl, t) (nI i) y = 0 := by show (if _ then _ else _) = _; rw [if_pos h1, if_neg v0, if_neg v1, if_neg v2, if_neg v3, if_neg v4, if_pos v5, nI_clamp (i31 hi), if_neg (by rw [hh]; decide)]
                  rw [e9]
                  refine zM_of "CoastLamps" rfl (by decide) (Nat.le_of_ble_eq_true rfl) ?_
                  intro p e s m below meth c ls E hP hK hD hS hl
                  obtain ⟨hx, hb, hml, ho, hts, hr, hlk⟩ := id E
                  have hl : lv_has ls 4 [(0, .ref aX), (1, .int (nI i)), (2, .int y)] := hl
                  refine lv_aload_n hx hb d_X_told_0 rfl (lv_at hl 0 rfl) ?_
                  refine lv_iload_n hx hb d_X_told_1 rfl (lv_at hl 1 rfl) ?_
                  refine zcV (As := [.int (nI i)]) (rest := []) (ci := 10) E cy_X_lampAt kw_257 ks_1 kw_255 (c_X_lampAt_t l dC dI c1 c2 c3 A aX aC aD aE aA ad d n kk ht tk so lt sto ni ac bl t hn i hi0) hK hP hD hS 3 rfl zC_X.1 rfl rfl hl.1 rfl (Nat.le_of_ble_eq_true rfl) ⟨Nat.le_of_ble_eq_true rfl, Nat.le_of_ble_eq_true rfl⟩ d_X_told_2 ⟨Nat.le_refl _, Nat.le_refl _⟩ (fun H locs hP hD hS => ?_)
                  refine lv_astore_n (lv' := [(3, .ref (ad i)), (0, .ref aX), (1, .int (nI i)), (2, .int y)]) hx hb d_X_told_5 rfl hl (by decide) rfl (fun ls hl => ?_)
                  refine lv_aload_n hx hb d_X_told_6 rfl (lv_at hl 0 rfl) ?_
                  refine lv_ifnonnull (tgt := 14) hx hb d_X_told_7 (by decide) ?_
                  refine lv_iload_n hx hb d_X_told_14 rfl (lv_at hl 3 rfl) ?_
                  refine lv_tableIn (off := 74) (tgt := 89) hx hb d_X_told_15 (by rw [v5]; decide) (by rw [v5]; decide) (by rw [v5]; decide) (by decide) ?_
                  refine lv_aload_n hx hb d_X_told_89 rfl (lv_at hl 0 rfl) ?_
                  have hP : va_P (dC, dI) classes (wl c1 c2 aC aD aE (ad i) (kk i) d (nI (kk i + 1)) (ht i) (tk i) (lt i) (wxR c3 aX aC aA ad n kk ht tk so lt sto ni ac bl) (i + 2) (so i, t)) H := by rw [x_fo]; exact hP
                  have hD : va_D A (wl c1 c2 aC aD aE (ad i) (kk i) d (nI (kk i + 1)) (ht i) (tk i) (lt i) (wxR c3 aX aC aA ad n kk ht tk so lt sto ni ac bl) (i + 2) (so i, t)) := by rw [x_fo]; exact hD
                  refine dv_horned (st := []) E (hkk i hi0) (x_len hi0) kw_268 hK hP hD hS hl.1 (Nat.le_of_ble_eq_true rfl) ⟨Nat.le_of_ble_eq_true rfl, Nat.le_of_ble_eq_true rfl⟩ d_X_told_90 ⟨Nat.le_refl _, Nat.le_refl _⟩ (fun H locs hP hD hS => ?_)
                  rw [x_fo] at hP hD
                  rw [hh, show zb false = 0 from rfl]
                  refine lv_if_eq (tgt := 100) hx hb d_X_told_93 (by decide) (fun _ => ?_) (fun h9 => absurd (rfl) h9)
                  refine lv_lconst (v := 0) hx hb d_X_told_100 (by decide) ?_
                  exact zrl E hK hP hD hS d_X_told_101
                · have e9 : toldA (d, n, kk, ht, tk, so, lt, sto, ni, ac, bl, t) (nI i) y = 1 := by show (if _ then _ else _) = _; rw [if_pos h1, if_neg v0, if_neg v1, if_neg v2, if_neg v3, if_neg v4, if_pos v5, nI_clamp (i31 hi), if_pos hh]
                  rw [e9]
                  refine zM_of "CoastLamps" rfl (by decide) (Nat.le_of_ble_eq_true rfl) ?_
                  intro p e s m below meth c ls E hP hK hD hS hl
                  obtain ⟨hx, hb, hml, ho, hts, hr, hlk⟩ := id E
                  have hl : lv_has ls 4 [(0, .ref aX), (1, .int (nI i)), (2, .int y)] := hl
                  refine lv_aload_n hx hb d_X_told_0 rfl (lv_at hl 0 rfl) ?_
                  refine lv_iload_n hx hb d_X_told_1 rfl (lv_at hl 1 rfl) ?_
                  refine zcV (As := [.int (nI i)]) (rest := []) (ci := 10) E cy_X_lampAt kw_257 ks_1 kw_255 (c_X_lampAt_t l dC dI c1 c2 c3 A aX aC aD aE aA ad d n kk ht tk so lt sto ni ac bl t hn i hi0) hK hP hD hS 3 rfl zC_X.1 rfl rfl hl.1 rfl (Nat.le_of_ble_eq_true rfl) ⟨Nat.le_of_ble_eq_true rfl, Nat.le_of_ble_eq_true rfl⟩ d_X_told_2 ⟨Nat.le_refl _, Nat.le_refl _⟩ (fun H locs hP hD hS => ?_)
                  refine lv_astore_n (lv' := [(3, .ref (ad i)), (0, .ref aX), (1, .int (nI i)), (2, .int y)]) hx hb d_X_told_5 rfl hl (by decide) rfl (fun ls hl => ?_)
                  refine lv_aload_n hx hb d_X_told_6 rfl (lv_at hl 0 rfl) ?_
                  refine lv_ifnonnull (tgt := 14) hx hb d_X_told_7 (by decide) ?_
                  refine lv_iload_n hx hb d_X_told_14 rfl (lv_at hl 3 rfl) ?_
                  refine lv_tableIn (off := 74) (tgt := 89) hx hb d_X_told_15 (by rw [v5]; decide) (by rw [v5]; decide) (by rw [v5]; decide) (by decide) ?_
                  refine lv_aload_n hx hb d_X_told_89 rfl (lv_at hl 0 rfl) ?_
                  have hP : va_P (dC, dI) classes (wl c1 c2 aC aD aE (ad i) (kk i) d (nI (kk i + 1)) (ht i) (tk i) (lt i) (wxR c3 aX aC aA ad n kk ht tk so lt sto ni ac bl) (i + 2) (so i, t)) H := by rw [x_fo]; exact hP
                  have hD : va_D A (wl c1 c2 aC aD aE (ad i) (kk i) d (nI (kk i + 1)) (ht i) (tk i) (lt i) (wxR c3 aX aC aA ad n kk ht tk so lt sto ni ac bl) (i + 2) (so i, t)) := by rw [x_fo]; exact hD
                  refine dv_horned (st := []) E (hkk i hi0) (x_len hi0) kw_268 hK hP hD hS hl.1 (Nat.le_of_ble_eq_true rfl) ⟨Nat.le_of_ble_eq_true rfl, Nat.le_of_ble_eq_true rfl⟩ d_X_told_90 ⟨Nat.le_refl _, Nat.le_refl _⟩ (fun H locs hP hD hS => ?_)
                  rw [x_fo] at hP hD
                  rw [hh, show zb true = 1 from rfl]
                  refine lv_if_eq (tgt := 100) hx hb d_X_told_93 (by decide) (fun h9 => absurd h9 (by decide)) (fun _ => ?_)
                  refine lv_lconst (v := 1) hx hb d_X_told_96 (by decide) ?_
                  refine lv_goto (tgt := 101) hx hb d_X_told_97 (by decide) ?_
                  exact zrl E hK hP hD hS d_X_told_101
              · have e9 : toldA (d, n, kk, ht, tk, so, lt, sto, ni, ac, bl, t) (nI i) y = zNONE := by show (if _ then _ else _) = _; rw [if_pos h1, if_neg v0, if_neg v1, if_neg v2, if_neg v3, if_neg v4, if_neg v5]
                rw [e9]
                refine zM_of "CoastLamps" rfl (by decide) (Nat.le_of_ble_eq_true rfl) ?_
                intro p e s m below meth c ls E hP hK hD hS hl
                obtain ⟨hx, hb, hml, ho, hts, hr, hlk⟩ := id E
                have hl : lv_has ls 4 [(0, .ref aX), (1, .int (nI i)), (2, .int y)] := hl
                refine lv_aload_n hx hb d_X_told_0 rfl (lv_at hl 0 rfl) ?_
                refine lv_iload_n hx hb d_X_told_1 rfl (lv_at hl 1 rfl) ?_
                refine zcV (As := [.int (nI i)]) (rest := []) (ci := 10) E cy_X_lampAt kw_257 ks_1 kw_255 (c_X_lampAt_t l dC dI c1 c2 c3 A aX aC aD aE aA ad d n kk ht tk so lt sto ni ac bl t hn i hi0) hK hP hD hS 3 rfl zC_X.1 rfl rfl hl.1 rfl (Nat.le_of_ble_eq_true rfl) ⟨Nat.le_of_ble_eq_true rfl, Nat.le_of_ble_eq_true rfl⟩ d_X_told_2 ⟨Nat.le_refl _, Nat.le_refl _⟩ (fun H locs hP hD hS => ?_)
                refine lv_astore_n (lv' := [(3, .ref (ad i)), (0, .ref aX), (1, .int (nI i)), (2, .int y)]) hx hb d_X_told_5 rfl hl (by decide) rfl (fun ls hl => ?_)
                refine lv_aload_n hx hb d_X_told_6 rfl (lv_at hl 0 rfl) ?_
                refine lv_ifnonnull (tgt := 14) hx hb d_X_told_7 (by decide) ?_
                refine lv_iload_n hx hb d_X_told_14 rfl (lv_at hl 3 rfl) ?_
                refine lv_tableOut (tgt := 102) hx hb d_X_told_15 (sw_out5 v0 v1 v2 v3 v4 v5) (by decide) ?_
                refine lv_ldc2 hx hb ho (hts _ kw_259) d_X_told_102 ?_
                exact zrl E hK hP hD hS d_X_told_105
  · have e9 : toldA (d, n, kk, ht, tk, so, lt, sto, ni, ac, bl, t) x y = zNONE := by show (if _ then _ else _) = _; rw [if_neg h1]
    rw [e9]
    refine zM_of "CoastLamps" rfl (by decide) (Nat.le_of_ble_eq_true rfl) ?_
    intro p e s m below meth c ls E hP hK hD hS hl
    obtain ⟨hx, hb, hml, ho, hts, hr, hlk⟩ := id E
    have hl : lv_has ls 4 [(0, .ref aX), (1, .int x), (2, .int y)] := hl
    refine lv_aload_n hx hb d_X_told_0 rfl (lv_at hl 0 rfl) ?_
    refine lv_iload_n hx hb d_X_told_1 rfl (lv_at hl 1 rfl) ?_
    refine zcV (As := [.int x]) (rest := []) (ci := 10) E cy_X_lampAt kw_257 ks_1 kw_255 (c_X_lampAt_f l dC dI c1 c2 c3 A aX aC aD aE aA ad d n kk ht tk so lt sto ni ac bl t x h1) hK hP hD hS 3 rfl zC_X.1 rfl rfl hl.1 rfl (Nat.le_of_ble_eq_true rfl) ⟨Nat.le_of_ble_eq_true rfl, Nat.le_of_ble_eq_true rfl⟩ d_X_told_2 ⟨Nat.le_refl _, Nat.le_refl _⟩ (fun H locs hP hD hS => ?_)
    refine lv_astore_nN (lv' := [(3, .null), (0, .ref aX), (1, .int x), (2, .int y)]) hx hb d_X_told_5 rfl hl (by decide) rfl (fun ls hl => ?_)
    refine lv_aload_nN hx hb d_X_told_6 rfl (lv_at hl 0 rfl) ?_
    refine lv_ifnonnullN hx hb d_X_told_7 ?_
    refine lv_ldc2 hx hb ho (hts _ kw_259) d_X_told_10 ?_
    exact zrl E hK hP hD hS d_X_told_13
