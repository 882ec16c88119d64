set_option maxHeartbeats 1000000 in
set_option maxRecDepth 100000 in
theorem c_M_dial (l : Launch) (dC : Nat → ClassId) (dI : Nat → Nat → Nat) (g1 g2 g3 g4 g5 g6 g7 : ClassId) (A : Nat → Prop) (aM m1 m2 m3 m4 m5 m6 m7 : Nat) (d : Nat → Int32) (n : Nat) (kk : Nat → Nat) (ht tk so lt : Nat → Int32) (sto : Int64) (ni ac bl : Int32) (t : zT) (hI : zInv (d, n, kk, ht, tk, so, lt, sto, ni, ac, bl, t)) (x y : Int32) : zM l y_M_dial b_M_dial 4 (some (FieldType.int)) 1 22 [.ref aM, .int x, .int y] (dC, dI) (t7 g1 g2 g3 g4 g5 g6 g7) A (mW g1 g2 g3 g4 g5 g6 g7 aM m1 m2 m3 m4 m5 m6 m7 (d, n, kk, ht, tk, so, lt, sto, ni, ac, bl, t)) (mW g1 g2 g3 g4 g5 g6 g7 aM m1 m2 m3 m4 m5 m6 m7 (dialA (d, n, kk, ht, tk, so, lt, sto, ni, ac, bl, t) x y).2) (some (.int (dialA (d, n, kk, ht, tk, so, lt, sto, ni, ac, bl, t) x y).1)) := by
  obtain ⟨hn, hkk, hz⟩ : n ≤ 60 ∧ (∀ i, i < n → kk i < 9) ∧ ∀ i, n ≤ i → tk i = 0 ∧ so i = 0 ∧ lt i = 0 := hI
  by_cases h1 : 0 ≤ x ∧ x ≤ 7
  · by_cases h2 : 0 ≤ y ∧ y ≤ 1000
    · obtain ⟨i, hi, rfl⟩ := in_of (q := 7) (by decide) (by decide) h1
      have e9 : dialA (d, n, kk, ht, tk, so, lt, sto, ni, ac, bl, t) (nI i) y = (d i, (upd d i y, n, kk, ht, tk, so, lt, sto, ni, ac, bl, t)) := by show (if _ then _ else _) = _; rw [if_pos ⟨h1, h2⟩, nI_clamp (Nat.lt_of_le_of_lt hi (by decide))]
      rw [e9]
      refine zM_of "CoastLampsModel" rfl (by decide) (Nat.le_of_ble_eq_true rfl) ?_
      intro p e s m below meth c ls E hP hK hD hS hl
      obtain ⟨hx, hb, hml, ho, hts, hr, hlk⟩ := id E
      have hl : lv_has ls 4 [(0, .ref aM), (1, .int (nI i)), (2, .int y)] := hl
      refine lv_iload_n hx hb d_M_dial_0 rfl (lv_at hl 1 rfl) ?_
      refine lv_iconst (v := 0) hx hb d_M_dial_1 (by decide) ?_
      refine lv_bipush (v := 7) hx hb d_M_dial_2 (by decide) ?_
      refine zcS (As := [.int (nI i), .int 0, .int 7]) (rest := []) E cy_M_in kw_636 kw_635 rfl (c_M_in l dC dI (t7 g1 g2 g3 g4 g5 g6 g7) A (wm g1 g2 g3 g4 g5 g6 g7 aM m1 m2 m3 m4 m5 m6 m7 d n (kdF kk) ht tk so lt sto ni ac bl t) (nI i) 0 7) hK hP hD hS rfl hl.1 rfl (Nat.le_of_ble_eq_true rfl) ⟨Nat.le_of_ble_eq_true rfl, Nat.le_of_ble_eq_true rfl⟩ d_M_dial_4 ⟨Nat.le_refl _, Nat.le_refl _⟩ (fun H locs hP hD hS => ?_)
      rw [show zb (decide (0 ≤ nI i ∧ nI i ≤ 7)) = 1 from by rw [decide_eq_true (h1)]; rfl]
      refine lv_if_eq (tgt := 21) hx hb d_M_dial_7 (by decide) (fun h9 => absurd h9 (by decide)) (fun _ => ?_)
      refine lv_iload_n hx hb d_M_dial_10 rfl (lv_at hl 2 rfl) ?_
      refine lv_iconst (v := 0) hx hb d_M_dial_11 (by decide) ?_
      refine lv_sipush (v := 1000) hx hb d_M_dial_12 (by decide) ?_
      refine zcS (As := [.int y, .int 0, .int 1000]) (rest := []) E cy_M_in kw_636 kw_635 rfl (c_M_in l dC dI (t7 g1 g2 g3 g4 g5 g6 g7) A (wm g1 g2 g3 g4 g5 g6 g7 aM m1 m2 m3 m4 m5 m6 m7 d n (kdF kk) ht tk so lt sto ni ac bl t) y 0 1000) hK hP hD hS rfl hl.1 rfl (Nat.le_of_ble_eq_true rfl) ⟨Nat.le_of_ble_eq_true rfl, Nat.le_of_ble_eq_true rfl⟩ d_M_dial_15 ⟨Nat.le_refl _, Nat.le_refl _⟩ (fun H locs hP hD hS => ?_)
      rw [show zb (decide (0 ≤ y ∧ y ≤ 1000)) = 1 from by rw [decide_eq_true (h2)]; rfl]
      refine lv_if_ne (tgt := 23) hx hb d_M_dial_18 (by decide) (fun _ => ?_) (fun h9 => absurd h9 (by decide))
      refine lv_aload_n hx hb d_M_dial_23 rfl (lv_at hl 0 rfl) ?_
      refine zget (ci := 11) (fs := [.ref m1, .int (nI n), .ref m2, .ref m3, .ref m4, .ref m5, .ref m6, .long sto, .int ni, .int ac, .int bl, .ref m7, .int (nI t.2.1)]) E hK hP 0 rfl zC_M 0 (by decide) kw_590 (Or.inl rfl) rfl d_M_dial_24 ?_
      refine lv_iload_n hx hb d_M_dial_27 rfl (lv_at hl 1 rfl) ?_
      refine va_iald hx hb hK hP 1 0 rfl rfl (vp_in_nI (Nat.lt_succ_of_le hi) (by decide)) d_M_dial_28 ?_
      rw [nI_clamp (Nat.lt_of_le_of_lt hi (by decide))]
      refine lv_istore_n (lv' := [(3, .int (d i)), (0, .ref aM), (1, .int (nI i)), (2, .int y)]) hx hb d_M_dial_29 rfl hl (by decide) rfl (fun ls hl => ?_)
      refine lv_aload_n hx hb d_M_dial_30 rfl (lv_at hl 1 rfl) ?_
      refine zget (ci := 11) (fs := [.ref m1, .int (nI n), .ref m2, .ref m3, .ref m4, .ref m5, .ref m6, .long sto, .int ni, .int ac, .int bl, .ref m7, .int (nI t.2.1)]) E hK hP 0 rfl zC_M 0 (by decide) kw_590 (Or.inl rfl) rfl d_M_dial_31 ?_
      refine lv_iload_n hx hb d_M_dial_34 rfl (lv_at hl 2 rfl) ?_
      refine lv_iload_n hx hb d_M_dial_35 rfl (lv_at hl 3 rfl) ?_
      refine va_iast hx hb hK hP hD hS 1 0 rfl rfl (vp_in_nI (Nat.lt_succ_of_le hi) (by decide)) d_M_dial_36 (fun H locs hP hD hS => ?_)
      rw [nI_clamp (Nat.lt_of_le_of_lt hi (by decide))] at hP hD
      have hP : va_P (dC, dI) classes (wm g1 g2 g3 g4 g5 g6 g7 aM m1 m2 m3 m4 m5 m6 m7 (upd d i y) n (kdF kk) ht tk so lt sto ni ac bl t) H := hP
      have hD : va_D A (wm g1 g2 g3 g4 g5 g6 g7 aM m1 m2 m3 m4 m5 m6 m7 (upd d i y) n (kdF kk) ht tk so lt sto ni ac bl t) := hD
      refine lv_iload_n hx hb d_M_dial_37 rfl (lv_at hl 0 rfl) ?_
      exact zri E hK hP hD hS d_M_dial_38
    · have e9 : dialA (d, n, kk, ht, tk, so, lt, sto, ni, ac, bl, t) x y = (-1, (d, n, kk, ht, tk, so, lt, sto, ni, ac, bl, t)) := by show (if _ then _ else _) = _; rw [if_neg (fun h => h2 h.2)]
      rw [e9]
      refine zM_of "CoastLampsModel" rfl (by decide) (Nat.le_of_ble_eq_true rfl) ?_
      intro p e s m below meth c ls E hP hK hD hS hl
      obtain ⟨hx, hb, hml, ho, hts, hr, hlk⟩ := id E
      have hl : lv_has ls 4 [(0, .ref aM), (1, .int x), (2, .int y)] := hl
      refine lv_iload_n hx hb d_M_dial_0 rfl (lv_at hl 1 rfl) ?_
      refine lv_iconst (v := 0) hx hb d_M_dial_1 (by decide) ?_
      refine lv_bipush (v := 7) hx hb d_M_dial_2 (by decide) ?_
      refine zcS (As := [.int x, .int 0, .int 7]) (rest := []) E cy_M_in kw_636 kw_635 rfl (c_M_in l dC dI (t7 g1 g2 g3 g4 g5 g6 g7) A (wm g1 g2 g3 g4 g5 g6 g7 aM m1 m2 m3 m4 m5 m6 m7 d n (kdF kk) ht tk so lt sto ni ac bl t) x 0 7) hK hP hD hS rfl hl.1 rfl (Nat.le_of_ble_eq_true rfl) ⟨Nat.le_of_ble_eq_true rfl, Nat.le_of_ble_eq_true rfl⟩ d_M_dial_4 ⟨Nat.le_refl _, Nat.le_refl _⟩ (fun H locs hP hD hS => ?_)
      rw [show zb (decide (0 ≤ x ∧ x ≤ 7)) = 1 from by rw [decide_eq_true (h1)]; rfl]
      refine lv_if_eq (tgt := 21) hx hb d_M_dial_7 (by decide) (fun h9 => absurd h9 (by decide)) (fun _ => ?_)
      refine lv_iload_n hx hb d_M_dial_10 rfl (lv_at hl 2 rfl) ?_
      refine lv_iconst (v := 0) hx hb d_M_dial_11 (by decide) ?_
      refine lv_sipush (v := 1000) hx hb d_M_dial_12 (by decide) ?_
      refine zcS (As := [.int y, .int 0, .int 1000]) (rest := []) E cy_M_in kw_636 kw_635 rfl (c_M_in l dC dI (t7 g1 g2 g3 g4 g5 g6 g7) A (wm g1 g2 g3 g4 g5 g6 g7 aM m1 m2 m3 m4 m5 m6 m7 d n (kdF kk) ht tk so lt sto ni ac bl t) y 0 1000) hK hP hD hS rfl hl.1 rfl (Nat.le_of_ble_eq_true rfl) ⟨Nat.le_of_ble_eq_true rfl, Nat.le_of_ble_eq_true rfl⟩ d_M_dial_15 ⟨Nat.le_refl _, Nat.le_refl _⟩ (fun H locs hP hD hS => ?_)
      rw [show zb (decide (0 ≤ y ∧ y ≤ 1000)) = 0 from by rw [decide_eq_false (h2)]; rfl]
      refine lv_if_ne (tgt := 23) hx hb d_M_dial_18 (by decide) (fun h9 => absurd (rfl) h9) (fun _ => ?_)
      refine lv_iconst (v := (-1)) hx hb d_M_dial_21 (by decide) ?_
      exact zri E hK hP hD hS d_M_dial_22
  · have e9 : dialA (d, n, kk, ht, tk, so, lt, sto, ni, ac, bl, t) x y = (-1, (d, n, kk, ht, tk, so, lt, sto, ni, ac, bl, t)) := by show (if _ then _ else _) = _; rw [if_neg (fun h => h1 h.1)]
    rw [e9]
    refine zM_of "CoastLampsModel" rfl (by decide) (Nat.le_of_ble_eq_true rfl) ?_
    intro p e s m below meth c ls E hP hK hD hS hl
    obtain ⟨hx, hb, hml, ho, hts, hr, hlk⟩ := id E
    have hl : lv_has ls 4 [(0, .ref aM), (1, .int x), (2, .int y)] := hl
    refine lv_iload_n hx hb d_M_dial_0 rfl (lv_at hl 1 rfl) ?_
    refine lv_iconst (v := 0) hx hb d_M_dial_1 (by decide) ?_
    refine lv_bipush (v := 7) hx hb d_M_dial_2 (by decide) ?_
    refine zcS (As := [.int x, .int 0, .int 7]) (rest := []) E cy_M_in kw_636 kw_635 rfl (c_M_in l dC dI (t7 g1 g2 g3 g4 g5 g6 g7) A (wm g1 g2 g3 g4 g5 g6 g7 aM m1 m2 m3 m4 m5 m6 m7 d n (kdF kk) ht tk so lt sto ni ac bl t) x 0 7) hK hP hD hS rfl hl.1 rfl (Nat.le_of_ble_eq_true rfl) ⟨Nat.le_of_ble_eq_true rfl, Nat.le_of_ble_eq_true rfl⟩ d_M_dial_4 ⟨Nat.le_refl _, Nat.le_refl _⟩ (fun H locs hP hD hS => ?_)
    rw [show zb (decide (0 ≤ x ∧ x ≤ 7)) = 0 from by rw [decide_eq_false (h1)]; rfl]
    refine lv_if_eq (tgt := 21) hx hb d_M_dial_7 (by decide) (fun _ => ?_) (fun h9 => absurd (rfl) h9)
    refine lv_iconst (v := (-1)) hx hb d_M_dial_21 (by decide) ?_
    exact zri E hK hP hD hS d_M_dial_22
theorem kq_of {x : Int32} (h : 1 ≤ x ∧ x ≤ 9) : ∃ q, q < 9 ∧ x = nI (q + 1) := by
  obtain ⟨i, hi, rfl⟩ := in_of (q := 9) (by decide) (by decide) (⟨Int32.le_trans (by decide) h.1, h.2⟩ : 0 ≤ x ∧ x ≤ 9)
  cases i with
  | zero => exact absurd h.1 (by decide)
  | succ q => exact ⟨q, by omega, rfl⟩
theorem kdF_upd (kk : Nat → Nat) (n q : Nat) : upd (kdF kk) n (nI (q + 1)) = kdF (updN kk n q) := by
  funext j; unfold upd kdF updN; by_cases h : j = n <;> simp [h]
set_option maxHeartbeats 1000000 in
set_option maxRecDepth 100000 in
theorem c_M_lamp (l : Launch) (dC : Nat → ClassId) (dI : Nat → Nat → Nat) (g1 g2 g3 g4 g5 g6 g7 : ClassId) (A : Nat → Prop) (aM m1 m2 m3 m4 m5 m6 m7 : Nat) (d : Nat → Int32) (n : Nat) (kk : Nat → Nat) (ht tk so lt : Nat → Int32) (sto : Int64) (ni ac bl : Int32) (t : zT) (hI : zInv (d, n, kk, ht, tk, so, lt, sto, ni, ac, bl, t)) (x y : Int32) : zM l y_M_lamp b_M_lamp 3 (some (FieldType.int)) 1 22 [.ref aM, .int x, .int y] (dC, dI) (t7 g1 g2 g3 g4 g5 g6 g7) A (mW g1 g2 g3 g4 g5 g6 g7 aM m1 m2 m3 m4 m5 m6 m7 (d, n, kk, ht, tk, so, lt, sto, ni, ac, bl, t)) (mW g1 g2 g3 g4 g5 g6 g7 aM m1 m2 m3 m4 m5 m6 m7 (lampA (d, n, kk, ht, tk, so, lt, sto, ni, ac, bl, t) x y).2) (some (.int (lampA (d, n, kk, ht, tk, so, lt, sto, ni, ac, bl, t) x y).1)) := by
  obtain ⟨hn, hkk, hz⟩ : n ≤ 60 ∧ (∀ i, i < n → kk i < 9) ∧ ∀ i, n ≤ i → tk i = 0 ∧ so i = 0 ∧ lt i = 0 := hI
  by_cases h1 : 1 ≤ x ∧ x ≤ 9
  · by_cases h2 : 0 ≤ y ∧ y ≤ 500
    · obtain ⟨q, hq, rfl⟩ := kq_of h1
      by_cases h3 : n = 60
      · have e9 : lampA (d, n, kk, ht, tk, so, lt, sto, ni, ac, bl, t) (nI (q + 1)) y = (-2, (d, n, kk, ht, tk, so, lt, sto, ni, ac, bl, t)) := by show (if _ then _ else _) = _; rw [if_pos ⟨h1, h2⟩, if_pos h3]
        rw [e9]
        refine zM_of "CoastLampsModel" rfl (by decide) (Nat.le_of_ble_eq_true rfl) ?_
        intro p e s m below meth c ls E hP hK hD hS hl
        obtain ⟨hx, hb, hml, ho, hts, hr, hlk⟩ := id E
        have hl : lv_has ls 3 [(0, .ref aM), (1, .int (nI (q + 1))), (2, .int y)] := hl
        refine lv_iload_n hx hb d_M_lamp_0 rfl (lv_at hl 1 rfl) ?_
        refine lv_iconst (v := 1) hx hb d_M_lamp_1 (by decide) ?_
        refine lv_bipush (v := 9) hx hb d_M_lamp_2 (by decide) ?_
        refine zcS (As := [.int (nI (q + 1)), .int 1, .int 9]) (rest := []) E cy_M_in kw_636 kw_635 rfl (c_M_in l dC dI (t7 g1 g2 g3 g4 g5 g6 g7) A (wm g1 g2 g3 g4 g5 g6 g7 aM m1 m2 m3 m4 m5 m6 m7 d n (kdF kk) ht tk so lt sto ni ac bl t) (nI (q + 1)) 1 9) hK hP hD hS rfl hl.1 rfl (Nat.le_of_ble_eq_true rfl) ⟨Nat.le_of_ble_eq_true rfl, Nat.le_of_ble_eq_true rfl⟩ d_M_lamp_4 ⟨Nat.le_refl _, Nat.le_refl _⟩ (fun H locs hP hD hS => ?_)
        rw [show zb (decide (1 ≤ nI (q + 1) ∧ nI (q + 1) ≤ 9)) = 1 from by rw [decide_eq_true (h1)]; rfl]
        refine lv_if_eq (tgt := 21) hx hb d_M_lamp_7 (by decide) (fun h9 => absurd h9 (by decide)) (fun _ => ?_)
        refine lv_iload_n hx hb d_M_lamp_10 rfl (lv_at hl 2 rfl) ?_
        refine lv_iconst (v := 0) hx hb d_M_lamp_11 (by decide) ?_
        refine lv_sipush (v := 500) hx hb d_M_lamp_12 (by decide) ?_
        refine zcS (As := [.int y, .int 0, .int 500]) (rest := []) E cy_M_in kw_636 kw_635 rfl (c_M_in l dC dI (t7 g1 g2 g3 g4 g5 g6 g7) A (wm g1 g2 g3 g4 g5 g6 g7 aM m1 m2 m3 m4 m5 m6 m7 d n (kdF kk) ht tk so lt sto ni ac bl t) y 0 500) hK hP hD hS rfl hl.1 rfl (Nat.le_of_ble_eq_true rfl) ⟨Nat.le_of_ble_eq_true rfl, Nat.le_of_ble_eq_true rfl⟩ d_M_lamp_15 ⟨Nat.le_refl _, Nat.le_refl _⟩ (fun H locs hP hD hS => ?_)
        rw [show zb (decide (0 ≤ y ∧ y ≤ 500)) = 1 from by rw [decide_eq_true (h2)]; rfl]
        refine lv_if_ne (tgt := 23) hx hb d_M_lamp_18 (by decide) (fun _ => ?_) (fun h9 => absurd h9 (by decide))
        refine lv_aload_n hx hb d_M_lamp_23 rfl (lv_at hl 0 rfl) ?_
        refine zget (ci := 11) (fs := [.ref m1, .int (nI n), .ref m2, .ref m3, .ref m4, .ref m5, .ref m6, .long sto, .int ni, .int ac, .int bl, .ref m7, .int (nI t.2.1)]) E hK hP 0 rfl zC_M 1 (by decide) kw_591 (Or.inl rfl) rfl d_M_lamp_24 ?_
        refine lv_bipush (v := 60) hx hb d_M_lamp_27 (by decide) ?_
        refine lv_icmp_ne (tgt := 35) hx hb d_M_lamp_29 (by decide) (fun h9 => absurd (by rw [h3]; decide) h9) (fun _ => ?_)
        refine lv_bipush (v := (-2)) hx hb d_M_lamp_32 (by decide) ?_
        exact zri E hK hP hD hS d_M_lamp_34
      · have e9 : lampA (d, n, kk, ht, tk, so, lt, sto, ni, ac, bl, t) (nI (q + 1)) y = (nI n, (d, n + 1, updN kk n q, upd ht n y, tk, so, lt, sto, ni, ac, bl, t)) := by show (if _ then _ else _) = _; rw [if_pos ⟨h1, h2⟩, if_neg h3, nI_clamp (by omega), Nat.add_sub_cancel]
        rw [e9]
        refine zM_of "CoastLampsModel" rfl (by decide) (Nat.le_of_ble_eq_true rfl) ?_
        intro p e s m below meth c ls E hP hK hD hS hl
        obtain ⟨hx, hb, hml, ho, hts, hr, hlk⟩ := id E
        have hl : lv_has ls 3 [(0, .ref aM), (1, .int (nI (q + 1))), (2, .int y)] := hl
        refine lv_iload_n hx hb d_M_lamp_0 rfl (lv_at hl 1 rfl) ?_
        refine lv_iconst (v := 1) hx hb d_M_lamp_1 (by decide) ?_
        refine lv_bipush (v := 9) hx hb d_M_lamp_2 (by decide) ?_
        refine zcS (As := [.int (nI (q + 1)), .int 1, .int 9]) (rest := []) E cy_M_in kw_636 kw_635 rfl (c_M_in l dC dI (t7 g1 g2 g3 g4 g5 g6 g7) A (wm g1 g2 g3 g4 g5 g6 g7 aM m1 m2 m3 m4 m5 m6 m7 d n (kdF kk) ht tk so lt sto ni ac bl t) (nI (q + 1)) 1 9) hK hP hD hS rfl hl.1 rfl (Nat.le_of_ble_eq_true rfl) ⟨Nat.le_of_ble_eq_true rfl, Nat.le_of_ble_eq_true rfl⟩ d_M_lamp_4 ⟨Nat.le_refl _, Nat.le_refl _⟩ (fun H locs hP hD hS => ?_)
        rw [show zb (decide (1 ≤ nI (q + 1) ∧ nI (q + 1) ≤ 9)) = 1 from by rw [decide_eq_true (h1)]; rfl]
        refine lv_if_eq (tgt := 21) hx hb d_M_lamp_7 (by decide) (fun h9 => absurd h9 (by decide)) (fun _ => ?_)
        refine lv_iload_n hx hb d_M_lamp_10 rfl (lv_at hl 2 rfl) ?_
        refine lv_iconst (v := 0) hx hb d_M_lamp_11 (by decide) ?_
        refine lv_sipush (v := 500) hx hb d_M_lamp_12 (by decide) ?_
        refine zcS (As := [.int y, .int 0, .int 500]) (rest := []) E cy_M_in kw_636 kw_635 rfl (c_M_in l dC dI (t7 g1 g2 g3 g4 g5 g6 g7) A (wm g1 g2 g3 g4 g5 g6 g7 aM m1 m2 m3 m4 m5 m6 m7 d n (kdF kk) ht tk so lt sto ni ac bl t) y 0 500) hK hP hD hS rfl hl.1 rfl (Nat.le_of_ble_eq_true rfl) ⟨Nat.le_of_ble_eq_true rfl, Nat.le_of_ble_eq_true rfl⟩ d_M_lamp_15 ⟨Nat.le_refl _, Nat.le_refl _⟩ (fun H locs hP hD hS => ?_)
        rw [show zb (decide (0 ≤ y ∧ y ≤ 500)) = 1 from by rw [decide_eq_true (h2)]; rfl]
        refine lv_if_ne (tgt := 23) hx hb d_M_lamp_18 (by decide) (fun _ => ?_) (fun h9 => absurd h9 (by decide))
        refine lv_aload_n hx hb d_M_lamp_23 rfl (lv_at hl 0 rfl) ?_
        refine zget (ci := 11) (fs := [.ref m1, .int (nI n), .ref m2, .ref m3, .ref m4, .ref m5, .ref m6, .long sto, .int ni, .int ac, .int bl, .ref m7, .int (nI t.2.1)]) E hK hP 0 rfl zC_M 1 (by decide) kw_591 (Or.inl rfl) rfl d_M_lamp_24 ?_
        refine lv_bipush (v := 60) hx hb d_M_lamp_27 (by decide) ?_
        refine lv_icmp_ne (tgt := 35) hx hb d_M_lamp_29 (by decide) (fun _ => ?_) (fun h9 => absurd h9 (fun h => h3 ((nI_eq (by omega) (by decide)).mp (h.trans (show (60 : Int32) = nI 60 from by decide)))))
        refine lv_aload_n hx hb d_M_lamp_35 rfl (lv_at hl 0 rfl) ?_
        refine zget (ci := 11) (fs := [.ref m1, .int (nI n), .ref m2, .ref m3, .ref m4, .ref m5, .ref m6, .long sto, .int ni, .int ac, .int bl, .ref m7, .int (nI t.2.1)]) E hK hP 0 rfl zC_M 2 (by decide) kw_592 (Or.inl rfl) rfl d_M_lamp_36 ?_
        refine lv_aload_n hx hb d_M_lamp_39 rfl (lv_at hl 0 rfl) ?_
        refine zget (ci := 11) (fs := [.ref m1, .int (nI n), .ref m2, .ref m3, .ref m4, .ref m5, .ref m6, .long sto, .int ni, .int ac, .int bl, .ref m7, .int (nI t.2.1)]) E hK hP 0 rfl zC_M 1 (by decide) kw_591 (Or.inl rfl) rfl d_M_lamp_40 ?_
        refine lv_iload_n hx hb d_M_lamp_43 rfl (lv_at hl 1 rfl) ?_
        refine va_iast hx hb hK hP hD hS 2 1 rfl rfl (vp_in_nI (show n < 60 by omega) (by decide)) d_M_lamp_44 (fun H locs hP hD hS => ?_)
        rw [nI_clamp (show n < 2 ^ 31 by omega)] at hP hD
        have hP : va_P (dC, dI) classes (wm g1 g2 g3 g4 g5 g6 g7 aM m1 m2 m3 m4 m5 m6 m7 d n (upd (kdF kk) n (nI (q + 1))) ht tk so lt sto ni ac bl t) H := hP
        have hD : va_D A (wm g1 g2 g3 g4 g5 g6 g7 aM m1 m2 m3 m4 m5 m6 m7 d n (upd (kdF kk) n (nI (q + 1))) ht tk so lt sto ni ac bl t) := hD
        refine lv_aload_n hx hb d_M_lamp_45 rfl (lv_at hl 0 rfl) ?_
        refine zget (ci := 11) (fs := [.ref m1, .int (nI n), .ref m2, .ref m3, .ref m4, .ref m5, .ref m6, .long sto, .int ni, .int ac, .int bl, .ref m7, .int (nI t.2.1)]) E hK hP 0 rfl zC_M 3 (by decide) kw_593 (Or.inl rfl) rfl d_M_lamp_46 ?_
        refine lv_aload_n hx hb d_M_lamp_49 rfl (lv_at hl 0 rfl) ?_
        refine zget (ci := 11) (fs := [.ref m1, .int (nI n), .ref m2, .ref m3, .ref m4, .ref m5, .ref m6, .long sto, .int ni, .int ac, .int bl, .ref m7, .int (nI t.2.1)]) E hK hP 0 rfl zC_M 1 (by decide) kw_591 (Or.inl rfl) rfl d_M_lamp_50 ?_
        refine lv_iload_n hx hb d_M_lamp_53 rfl (lv_at hl 2 rfl) ?_
        refine va_iast hx hb hK hP hD hS 3 2 rfl rfl (vp_in_nI (show n < 60 by omega) (by decide)) d_M_lamp_54 (fun H locs hP hD hS => ?_)
        rw [nI_clamp (show n < 2 ^ 31 by omega)] at hP hD
        have hP : va_P (dC, dI) classes (wm g1 g2 g3 g4 g5 g6 g7 aM m1 m2 m3 m4 m5 m6 m7 d n (upd (kdF kk) n (nI (q + 1))) (upd ht n y) tk so lt sto ni ac bl t) H := hP
        have hD : va_D A (wm g1 g2 g3 g4 g5 g6 g7 aM m1 m2 m3 m4 m5 m6 m7 d n (upd (kdF kk) n (nI (q + 1))) (upd ht n y) tk so lt sto ni ac bl t) := hD
        refine lv_aload_n hx hb d_M_lamp_55 rfl (lv_at hl 0 rfl) ?_
        refine lv_dup hx hb d_M_lamp_56 rfl ?_
        refine zget (ci := 11) (fs := [.ref m1, .int (nI n), .ref m2, .ref m3, .ref m4, .ref m5, .ref m6, .long sto, .int ni, .int ac, .int bl, .ref m7, .int (nI t.2.1)]) E hK hP 0 rfl zC_M 1 (by decide) kw_591 (Or.inl rfl) rfl d_M_lamp_57 ?_
        refine lv_iconst (v := 1) hx hb d_M_lamp_60 (by decide) ?_
        refine lv_iadd hx hb d_M_lamp_61 ?_
        rw [nI_1]
        refine zput (ci := 11) (fs := [.ref m1, .int (nI n), .ref m2, .ref m3, .ref m4, .ref m5, .ref m6, .long sto, .int ni, .int ac, .int bl, .ref m7, .int (nI t.2.1)]) (ty := .int) (v := .int (nI (n + 1))) (ws2 := wm g1 g2 g3 g4 g5 g6 g7 aM m1 m2 m3 m4 m5 m6 m7 d (n + 1) (upd (kdF kk) n (nI (q + 1))) (upd ht n y) tk so lt sto ni ac bl t) E hK hP hD hS 0 rfl zC_M t_M o_M n_M 1 (by decide) kw_591 (Or.inl rfl) rfl rfl rfl rfl (Nat.le_of_ble_eq_true rfl) d_M_lamp_62 (rfl) (fun H locs hP hD hS => ?_)
        refine lv_aload_n hx hb d_M_lamp_65 rfl (lv_at hl 0 rfl) ?_
        refine zget (ci := 11) (fs := [.ref m1, .int (nI (n + 1)), .ref m2, .ref m3, .ref m4, .ref m5, .ref m6, .long sto, .int ni, .int ac, .int bl, .ref m7, .int (nI t.2.1)]) E hK hP 0 rfl zC_M 1 (by decide) kw_591 (Or.inl rfl) rfl d_M_lamp_66 ?_
        refine lv_iconst (v := 1) hx hb d_M_lamp_69 (by decide) ?_
        refine lv_isub hx hb d_M_lamp_70 ?_
        rw [nI_pred]
        rw [kdF_upd] at hP hD
        exact zri E hK hP hD hS d_M_lamp_71
    · have e9 : lampA (d, n, kk, ht, tk, so, lt, sto, ni, ac, bl, t) x y = (-1, (d, n, kk, ht, tk, so, lt, sto, ni, ac, bl, t)) := by show (if _ then _ else _) = _; rw [if_neg (fun h => h2 h.2)]
      rw [e9]
      refine zM_of "CoastLampsModel" rfl (by decide) (Nat.le_of_ble_eq_true rfl) ?_
      intro p e s m below meth c ls E hP hK hD hS hl
      obtain ⟨hx, hb, hml, ho, hts, hr, hlk⟩ := id E
      have hl : lv_has ls 3 [(0, .ref aM), (1, .int x), (2, .int y)] := hl
      refine lv_iload_n hx hb d_M_lamp_0 rfl (lv_at hl 1 rfl) ?_
      refine lv_iconst (v := 1) hx hb d_M_lamp_1 (by decide) ?_
      refine lv_bipush (v := 9) hx hb d_M_lamp_2 (by decide) ?_
      refine zcS (As := [.int x, .int 1, .int 9]) (rest := []) E cy_M_in kw_636 kw_635 rfl (c_M_in l dC dI (t7 g1 g2 g3 g4 g5 g6 g7) A (wm g1 g2 g3 g4 g5 g6 g7 aM m1 m2 m3 m4 m5 m6 m7 d n (kdF kk) ht tk so lt sto ni ac bl t) x 1 9) hK hP hD hS rfl hl.1 rfl (Nat.le_of_ble_eq_true rfl) ⟨Nat.le_of_ble_eq_true rfl, Nat.le_of_ble_eq_true rfl⟩ d_M_lamp_4 ⟨Nat.le_refl _, Nat.le_refl _⟩ (fun H locs hP hD hS => ?_)
      rw [show zb (decide (1 ≤ x ∧ x ≤ 9)) = 1 from by rw [decide_eq_true (h1)]; rfl]
      refine lv_if_eq (tgt := 21) hx hb d_M_lamp_7 (by decide) (fun h9 => absurd h9 (by decide)) (fun _ => ?_)
      refine lv_iload_n hx hb d_M_lamp_10 rfl (lv_at hl 2 rfl) ?_
      refine lv_iconst (v := 0) hx hb d_M_lamp_11 (by decide) ?_
      refine lv_sipush (v := 500) hx hb d_M_lamp_12 (by decide) ?_
      refine zcS (As := [.int y, .int 0, .int 500]) (rest := []) E cy_M_in kw_636 kw_635 rfl (c_M_in l dC dI (t7 g1 g2 g3 g4 g5 g6 g7) A (wm g1 g2 g3 g4 g5 g6 g7 aM m1 m2 m3 m4 m5 m6 m7 d n (kdF kk) ht tk so lt sto ni ac bl t) y 0 500) hK hP hD hS rfl hl.1 rfl (Nat.le_of_ble_eq_true rfl) ⟨Nat.le_of_ble_eq_true rfl, Nat.le_of_ble_eq_true rfl⟩ d_M_lamp_15 ⟨Nat.le_refl _, Nat.le_refl _⟩ (fun H locs hP hD hS => ?_)
      rw [show zb (decide (0 ≤ y ∧ y ≤ 500)) = 0 from by rw [decide_eq_false (h2)]; rfl]
      refine lv_if_ne (tgt := 23) hx hb d_M_lamp_18 (by decide) (fun h9 => absurd (rfl) h9) (fun _ => ?_)
      refine lv_iconst (v := (-1)) hx hb d_M_lamp_21 (by decide) ?_
      exact zri E hK hP hD hS d_M_lamp_22
  · have e9 : lampA (d, n, kk, ht, tk, so, lt, sto, ni, ac, bl, t) x y = (-1, (d, n, kk, ht, tk, so, lt, sto, ni, ac, bl, t)) := by show (if _ then _ else _) = _; rw [if_neg (fun h => h1 h.1)]
    rw [e9]
    refine zM_of "CoastLampsModel" rfl (by decide) (Nat.le_of_ble_eq_true rfl) ?_
    intro p e s m below meth c ls E hP hK hD hS hl
    obtain ⟨hx, hb, hml, ho, hts, hr, hlk⟩ := id E
    have hl : lv_has ls 3 [(0, .ref aM), (1, .int x), (2, .int y)] := hl
    refine lv_iload_n hx hb d_M_lamp_0 rfl (lv_at hl 1 rfl) ?_
    refine lv_iconst (v := 1) hx hb d_M_lamp_1 (by decide) ?_
    refine lv_bipush (v := 9) hx hb d_M_lamp_2 (by decide) ?_
    refine zcS (As := [.int x, .int 1, .int 9]) (rest := []) E cy_M_in kw_636 kw_635 rfl (c_M_in l dC dI (t7 g1 g2 g3 g4 g5 g6 g7) A (wm g1 g2 g3 g4 g5 g6 g7 aM m1 m2 m3 m4 m5 m6 m7 d n (kdF kk) ht tk so lt sto ni ac bl t) x 1 9) hK hP hD hS rfl hl.1 rfl (Nat.le_of_ble_eq_true rfl) ⟨Nat.le_of_ble_eq_true rfl, Nat.le_of_ble_eq_true rfl⟩ d_M_lamp_4 ⟨Nat.le_refl _, Nat.le_refl _⟩ (fun H locs hP hD hS => ?_)
    rw [show zb (decide (1 ≤ x ∧ x ≤ 9)) = 0 from by rw [decide_eq_false (h1)]; rfl]
    refine lv_if_eq (tgt := 21) hx hb d_M_lamp_7 (by decide) (fun _ => ?_) (fun h9 => absurd (rfl) h9)
    refine lv_iconst (v := (-1)) hx hb d_M_lamp_21 (by decide) ?_
    exact zri E hK hP hD hS d_M_lamp_22
set_option maxHeartbeats 1000000 in
set_option maxRecDepth 100000 in
theorem c_M_trace (l : Launch) (dC : Nat → ClassId) (dI : Nat → Nat → Nat) (g1 g2 g3 g4 g5 g6 g7 : ClassId) (A : Nat → Prop) (aM m1 m2 m3 m4 m5 m6 m7 : Nat) (d : Nat → Int32) (n : Nat) (kk : Nat → Nat) (ht tk so lt : Nat → Int32) (sto : Int64) (ni ac bl : Int32) (t : zT) (hI : zInv (d, n, kk, ht, tk, so, lt, sto, ni, ac, bl, t)) (x : Int32) : zM l y_M_trace b_M_trace 2 (some (FieldType.int)) 1 22 [.ref aM, .int x] (dC, dI) (t7 g1 g2 g3 g4 g5 g6 g7) A (mW g1 g2 g3 g4 g5 g6 g7 aM m1 m2 m3 m4 m5 m6 m7 (d, n, kk, ht, tk, so, lt, sto, ni, ac, bl, t)) (mW g1 g2 g3 g4 g5 g6 g7 aM m1 m2 m3 m4 m5 m6 m7 (d, n, kk, ht, tk, so, lt, sto, ni, ac, bl, t)) (some (.int (traceA (d, n, kk, ht, tk, so, lt, sto, ni, ac, bl, t) x))) := by
  obtain ⟨hn, hkk, hz⟩ : n ≤ 60 ∧ (∀ i, i < n → kk i < 9) ∧ ∀ i, n ≤ i → tk i = 0 ∧ so i = 0 ∧ lt i = 0 := hI
  by_cases h1 : 0 ≤ x ∧ x ≤ nI t.2.1 - 1
  · obtain ⟨i, hi0, rfl⟩ := isL_of t.2.2 h1
    have e9 : traceA (d, n, kk, ht, tk, so, lt, sto, ni, ac, bl, t) (nI i) = t.1 i := by show (if _ then _ else _) = _; rw [if_pos h1, nI_clamp (Nat.lt_trans hi0 (nI_w t))]
    rw [e9]
    refine zM_of "CoastLampsModel" rfl (by decide) (Nat.le_of_ble_eq_true rfl) ?_
    intro p e s m below meth c ls E hP hK hD hS hl
    obtain ⟨hx, hb, hml, ho, hts, hr, hlk⟩ := id E
    have hl : lv_has ls 2 [(0, .ref aM), (1, .int (nI i))] := hl
    refine lv_iload_n hx hb d_M_trace_0 rfl (lv_at hl 1 rfl) ?_
    refine lv_iconst (v := 0) hx hb d_M_trace_1 (by decide) ?_
    refine lv_aload_n hx hb d_M_trace_2 rfl (lv_at hl 0 rfl) ?_
    refine zget (ci := 11) (fs := [.ref m1, .int (nI n), .ref m2, .ref m3, .ref m4, .ref m5, .ref m6, .long sto, .int ni, .int ac, .int bl, .ref m7, .int (nI t.2.1)]) E hK hP 0 rfl zC_M 12 (by decide) kw_602 (Or.inl rfl) rfl d_M_trace_3 ?_
    refine lv_iconst (v := 1) hx hb d_M_trace_6 (by decide) ?_
    refine lv_isub hx hb d_M_trace_7 ?_
    refine zcS (As := [.int (nI i), .int 0, .int ((nI t.2.1) - 1)]) (rest := []) E cy_M_in kw_636 kw_635 rfl (c_M_in l dC dI (t7 g1 g2 g3 g4 g5 g6 g7) A (wm g1 g2 g3 g4 g5 g6 g7 aM m1 m2 m3 m4 m5 m6 m7 d n (kdF kk) ht tk so lt sto ni ac bl t) (nI i) 0 ((nI t.2.1) - 1)) hK hP hD hS rfl hl.1 rfl (Nat.le_of_ble_eq_true rfl) ⟨Nat.le_of_ble_eq_true rfl, Nat.le_of_ble_eq_true rfl⟩ d_M_trace_8 ⟨Nat.le_refl _, Nat.le_refl _⟩ (fun H locs hP hD hS => ?_)
    rw [show zb (decide (0 ≤ nI i ∧ nI i ≤ (nI t.2.1) - 1)) = 1 from by rw [decide_eq_true (h1)]; rfl]
    refine lv_if_eq (tgt := 23) hx hb d_M_trace_11 (by decide) (fun h9 => absurd h9 (by decide)) (fun _ => ?_)
    refine lv_aload_n hx hb d_M_trace_14 rfl (lv_at hl 0 rfl) ?_
    refine zget (ci := 11) (fs := [.ref m1, .int (nI n), .ref m2, .ref m3, .ref m4, .ref m5, .ref m6, .long sto, .int ni, .int ac, .int bl, .ref m7, .int (nI t.2.1)]) E hK hP 0 rfl zC_M 11 (by decide) kw_601 (Or.inl rfl) rfl d_M_trace_15 ?_
    refine lv_iload_n hx hb d_M_trace_18 rfl (lv_at hl 1 rfl) ?_
    refine va_iald hx hb hK hP 7 6 rfl rfl (vp_in_nI (Nat.lt_of_lt_of_le hi0 t.2.2) (by decide)) d_M_trace_19 ?_
    rw [nI_clamp (Nat.lt_trans hi0 (nI_w t))]
    refine lv_goto (tgt := 24) hx hb d_M_trace_20 (by decide) ?_
    exact zri E hK hP hD hS d_M_trace_24
  · have e9 : traceA (d, n, kk, ht, tk, so, lt, sto, ni, ac, bl, t) x = -1 := by show (if _ then _ else _) = _; rw [if_neg h1]
    rw [e9]
    refine zM_of "CoastLampsModel" rfl (by decide) (Nat.le_of_ble_eq_true rfl) ?_
    intro p e s m below meth c ls E hP hK hD hS hl
    obtain ⟨hx, hb, hml, ho, hts, hr, hlk⟩ := id E
    have hl : lv_has ls 2 [(0, .ref aM), (1, .int x)] := hl
    refine lv_iload_n hx hb d_M_trace_0 rfl (lv_at hl 1 rfl) ?_
    refine lv_iconst (v := 0) hx hb d_M_trace_1 (by decide) ?_
    refine lv_aload_n hx hb d_M_trace_2 rfl (lv_at hl 0 rfl) ?_
    refine zget (ci := 11) (fs := [.ref m1, .int (nI n), .ref m2, .ref m3, .ref m4, .ref m5, .ref m6, .long sto, .int ni, .int ac, .int bl, .ref m7, .int (nI t.2.1)]) E hK hP 0 rfl zC_M 12 (by decide) kw_602 (Or.inl rfl) rfl d_M_trace_3 ?_
    refine lv_iconst (v := 1) hx hb d_M_trace_6 (by decide) ?_
    refine lv_isub hx hb d_M_trace_7 ?_
    refine zcS (As := [.int x, .int 0, .int ((nI t.2.1) - 1)]) (rest := []) E cy_M_in kw_636 kw_635 rfl (c_M_in l dC dI (t7 g1 g2 g3 g4 g5 g6 g7) A (wm g1 g2 g3 g4 g5 g6 g7 aM m1 m2 m3 m4 m5 m6 m7 d n (kdF kk) ht tk so lt sto ni ac bl t) x 0 ((nI t.2.1) - 1)) hK hP hD hS rfl hl.1 rfl (Nat.le_of_ble_eq_true rfl) ⟨Nat.le_of_ble_eq_true rfl, Nat.le_of_ble_eq_true rfl⟩ d_M_trace_8 ⟨Nat.le_refl _, Nat.le_refl _⟩ (fun H locs hP hD hS => ?_)
    rw [show zb (decide (0 ≤ x ∧ x ≤ (nI t.2.1) - 1)) = 0 from by rw [decide_eq_false (h1)]; rfl]
    refine lv_if_eq (tgt := 23) hx hb d_M_trace_11 (by decide) (fun _ => ?_) (fun h9 => absurd (rfl) h9)
    refine lv_iconst (v := (-1)) hx hb d_M_trace_23 (by decide) ?_
    exact zri E hK hP hD hS d_M_trace_24
set_option maxHeartbeats 1000000 in
set_option maxRecDepth 100000 in
theorem c_M_haul (l : Launch) (dC : Nat → ClassId) (dI : Nat → Nat → Nat) (g1 g2 g3 g4 g5 g6 g7 : ClassId) (A : Nat → Prop) (aM m1 m2 m3 m4 m5 m6 m7 : Nat) (d : Nat → Int32) (n : Nat) (kk : Nat → Nat) (ht tk so lt : Nat → Int32) (sto : Int64) (ni ac bl : Int32) (t : zT) (hI : zInv (d, n, kk, ht, tk, so, lt, sto, ni, ac, bl, t)) (x : Int32) : zM l y_M_haul b_M_haul 2 (some (FieldType.long)) 1 22 [.ref aM, .int x] (dC, dI) (t7 g1 g2 g3 g4 g5 g6 g7) A (mW g1 g2 g3 g4 g5 g6 g7 aM m1 m2 m3 m4 m5 m6 m7 (d, n, kk, ht, tk, so, lt, sto, ni, ac, bl, t)) (mW g1 g2 g3 g4 g5 g6 g7 aM m1 m2 m3 m4 m5 m6 m7 (haulA (d, n, kk, ht, tk, so, lt, sto, ni, ac, bl, t) x).2) (some (.long (haulA (d, n, kk, ht, tk, so, lt, sto, ni, ac, bl, t) x).1)) := by
  obtain ⟨hn, hkk, hz⟩ : n ≤ 60 ∧ (∀ i, i < n → kk i < 9) ∧ ∀ i, n ≤ i → tk i = 0 ∧ so i = 0 ∧ lt i = 0 := hI
  by_cases h1 : 1 ≤ x ∧ x ≤ 100000
  · have e9 : haulA (d, n, kk, ht, tk, so, lt, sto, ni, ac, bl, t) x = (sto + x.toInt64, (d, n, kk, ht, tk, so, lt, sto + x.toInt64, ni, ac, bl, t)) := by show (if _ then _ else _) = _; rw [if_pos h1]
    rw [e9]
    refine zM_of "CoastLampsModel" rfl (by decide) (Nat.le_of_ble_eq_true rfl) ?_
    intro p e s m below meth c ls E hP hK hD hS hl
    obtain ⟨hx, hb, hml, ho, hts, hr, hlk⟩ := id E
    have hl : lv_has ls 2 [(0, .ref aM), (1, .int x)] := hl
    refine lv_iload_n hx hb d_M_haul_0 rfl (lv_at hl 1 rfl) ?_
    refine lv_iconst (v := 1) hx hb d_M_haul_1 (by decide) ?_
    refine lv_ldc hx hb ho (hts _ kw_820) d_M_haul_2 ?_
    refine zcS (As := [.int x, .int 1, .int 100000]) (rest := []) E cy_M_in kw_636 kw_635 rfl (c_M_in l dC dI (t7 g1 g2 g3 g4 g5 g6 g7) A (wm g1 g2 g3 g4 g5 g6 g7 aM m1 m2 m3 m4 m5 m6 m7 d n (kdF kk) ht tk so lt sto ni ac bl t) x 1 100000) hK hP hD hS rfl hl.1 rfl (Nat.le_of_ble_eq_true rfl) ⟨Nat.le_of_ble_eq_true rfl, Nat.le_of_ble_eq_true rfl⟩ d_M_haul_4 ⟨Nat.le_refl _, Nat.le_refl _⟩ (fun H locs hP hD hS => ?_)
    rw [show zb (decide (1 ≤ x ∧ x ≤ 100000)) = 1 from by rw [decide_eq_true (h1)]; rfl]
    refine lv_if_ne (tgt := 14) hx hb d_M_haul_7 (by decide) (fun _ => ?_) (fun h9 => absurd h9 (by decide))
    refine lv_aload_n hx hb d_M_haul_14 rfl (lv_at hl 0 rfl) ?_
    refine lv_dup hx hb d_M_haul_15 rfl ?_
    refine zget (ci := 11) (fs := [.ref m1, .int (nI n), .ref m2, .ref m3, .ref m4, .ref m5, .ref m6, .long sto, .int ni, .int ac, .int bl, .ref m7, .int (nI t.2.1)]) E hK hP 0 rfl zC_M 7 (by decide) kw_597 (Or.inl rfl) rfl d_M_haul_16 ?_
    refine lv_iload_n hx hb d_M_haul_19 rfl (lv_at hl 1 rfl) ?_
    refine lv_i2l (v := (x : Int32).toInt64) hx hb d_M_haul_20 rfl ?_
    refine lv_ladd hx hb d_M_haul_21 ?_
    refine zput (ci := 11) (fs := [.ref m1, .int (nI n), .ref m2, .ref m3, .ref m4, .ref m5, .ref m6, .long sto, .int ni, .int ac, .int bl, .ref m7, .int (nI t.2.1)]) (ty := .long) (v := .long (sto + ((x : Int32).toInt64))) (ws2 := wm g1 g2 g3 g4 g5 g6 g7 aM m1 m2 m3 m4 m5 m6 m7 d n (kdF kk) ht tk so lt (sto + ((x : Int32).toInt64)) ni ac bl t) E hK hP hD hS 0 rfl zC_M t_M o_M n_M 7 (by decide) kw_597 (Or.inl rfl) rfl rfl rfl rfl (Nat.le_of_ble_eq_true rfl) d_M_haul_22 (rfl) (fun H locs hP hD hS => ?_)
    refine lv_aload_n hx hb d_M_haul_25 rfl (lv_at hl 0 rfl) ?_
    refine zget (ci := 11) (fs := [.ref m1, .int (nI n), .ref m2, .ref m3, .ref m4, .ref m5, .ref m6, .long (sto + ((x : Int32).toInt64)), .int ni, .int ac, .int bl, .ref m7, .int (nI t.2.1)]) E hK hP 0 rfl zC_M 7 (by decide) kw_597 (Or.inl rfl) rfl d_M_haul_26 ?_
    exact zrl E hK hP hD hS d_M_haul_29
  · have e9 : haulA (d, n, kk, ht, tk, so, lt, sto, ni, ac, bl, t) x = (zNONE, (d, n, kk, ht, tk, so, lt, sto, ni, ac, bl, t)) := by show (if _ then _ else _) = _; rw [if_neg h1]
    rw [e9]
    refine zM_of "CoastLampsModel" rfl (by decide) (Nat.le_of_ble_eq_true rfl) ?_
    intro p e s m below meth c ls E hP hK hD hS hl
    obtain ⟨hx, hb, hml, ho, hts, hr, hlk⟩ := id E
    have hl : lv_has ls 2 [(0, .ref aM), (1, .int x)] := hl
    refine lv_iload_n hx hb d_M_haul_0 rfl (lv_at hl 1 rfl) ?_
    refine lv_iconst (v := 1) hx hb d_M_haul_1 (by decide) ?_
    refine lv_ldc hx hb ho (hts _ kw_820) d_M_haul_2 ?_
    refine zcS (As := [.int x, .int 1, .int 100000]) (rest := []) E cy_M_in kw_636 kw_635 rfl (c_M_in l dC dI (t7 g1 g2 g3 g4 g5 g6 g7) A (wm g1 g2 g3 g4 g5 g6 g7 aM m1 m2 m3 m4 m5 m6 m7 d n (kdF kk) ht tk so lt sto ni ac bl t) x 1 100000) hK hP hD hS rfl hl.1 rfl (Nat.le_of_ble_eq_true rfl) ⟨Nat.le_of_ble_eq_true rfl, Nat.le_of_ble_eq_true rfl⟩ d_M_haul_4 ⟨Nat.le_refl _, Nat.le_refl _⟩ (fun H locs hP hD hS => ?_)
    rw [show zb (decide (1 ≤ x ∧ x ≤ 100000)) = 0 from by rw [decide_eq_false (h1)]; rfl]
    refine lv_if_ne (tgt := 14) hx hb d_M_haul_7 (by decide) (fun h9 => absurd (rfl) h9) (fun _ => ?_)
    refine lv_ldc2 hx hb ho (hts _ kw_650) d_M_haul_10 ?_
    exact zrl E hK hP hD hS d_M_haul_13
set_option maxHeartbeats 1000000 in
set_option maxRecDepth 100000 in
theorem c_M_fill (l : Launch) (dC : Nat → ClassId) (dI : Nat → Nat → Nat) (g1 g2 g3 g4 g5 g6 g7 : ClassId) (A : Nat → Prop) (aM m1 m2 m3 m4 m5 m6 m7 : Nat) (d : Nat → Int32) (n : Nat) (kk : Nat → Nat) (ht tk so lt : Nat → Int32) (sto : Int64) (ni ac bl : Int32) (t : zT) (hI : zInv (d, n, kk, ht, tk, so, lt, sto, ni, ac, bl, t)) (x y : Int32) : zM l y_M_fill b_M_fill 3 (some (FieldType.int)) 2 43 [.ref aM, .int x, .int y] (dC, dI) (t7 g1 g2 g3 g4 g5 g6 g7) A (mW g1 g2 g3 g4 g5 g6 g7 aM m1 m2 m3 m4 m5 m6 m7 (d, n, kk, ht, tk, so, lt, sto, ni, ac, bl, t)) (mW g1 g2 g3 g4 g5 g6 g7 aM m1 m2 m3 m4 m5 m6 m7 (fillA (d, n, kk, ht, tk, so, lt, sto, ni, ac, bl, t) x y).2) (some (.int (fillA (d, n, kk, ht, tk, so, lt, sto, ni, ac, bl, t) x y).1)) := by
  obtain ⟨hn, hkk, hz⟩ : n ≤ 60 ∧ (∀ i, i < n → kk i < 9) ∧ ∀ i, n ≤ i → tk i = 0 ∧ so i = 0 ∧ lt i = 0 := hI
  by_cases h1 : 0 ≤ x ∧ x ≤ nI n - 1
  · by_cases h2 : 1 ≤ y ∧ y ≤ 100000
    · obtain ⟨i, hi0, rfl⟩ := isL_of (Nat.le_trans hn (by decide)) h1
      have hi : i < 60 := Nat.lt_of_lt_of_le hi0 hn
      by_cases h3 : y.toInt64 ≤ sto
      · by_cases h4 : tk i + y ≤ 1000000
        · have e9 : fillA (d, n, kk, ht, tk, so, lt, sto, ni, ac, bl, t) (nI i) y = (tk i + y, (d, n, kk, ht, upd tk i (tk i + y), so, lt, sto - y.toInt64, ni, ac, bl, t)) := by show (if _ then _ else _) = _; rw [if_pos ⟨h1, h2⟩, if_pos h3, nI_clamp (i31 hi), if_pos h4]
          rw [e9]
          refine zM_of "CoastLampsModel" rfl (by decide) (Nat.le_of_ble_eq_true rfl) ?_
          intro p e s m below meth c ls E hP hK hD hS hl
          obtain ⟨hx, hb, hml, ho, hts, hr, hlk⟩ := id E
          have hl : lv_has ls 3 [(0, .ref aM), (1, .int (nI i)), (2, .int y)] := hl
          refine lv_aload_n hx hb d_M_fill_0 rfl (lv_at hl 0 rfl) ?_
          refine lv_iload_n hx hb d_M_fill_1 rfl (lv_at hl 1 rfl) ?_
          refine zcV (As := [.int (nI i)]) (rest := []) (ci := 11) E cy_M_isLamp kw_648 ks_4 kw_646 (c_M_isLamp l dC dI g1 g2 g3 g4 g5 g6 g7 A aM m1 m2 m3 m4 m5 m6 m7 d n (kdF kk) ht tk so lt sto ni ac bl t (nI i)) hK hP hD hS 0 rfl zC_M.1 rfl rfl hl.1 rfl (Nat.le_of_ble_eq_true rfl) ⟨Nat.le_of_ble_eq_true rfl, Nat.le_of_ble_eq_true rfl⟩ d_M_fill_2 ⟨Nat.le_refl _, Nat.le_refl _⟩ (fun H locs hP hD hS => ?_)
          rw [show zb (decide (0 ≤ nI i ∧ nI i ≤ nI n - 1)) = 1 from by rw [decide_eq_true (h1)]; rfl]
          refine lv_if_eq (tgt := 18) hx hb d_M_fill_5 (by decide) (fun h9 => absurd h9 (by decide)) (fun _ => ?_)
          refine lv_iload_n hx hb d_M_fill_8 rfl (lv_at hl 2 rfl) ?_
          refine lv_iconst (v := 1) hx hb d_M_fill_9 (by decide) ?_
          refine lv_ldc hx hb ho (hts _ kw_820) d_M_fill_10 ?_
          refine zcS (As := [.int y, .int 1, .int 100000]) (rest := []) E cy_M_in kw_636 kw_635 rfl (c_M_in l dC dI (t7 g1 g2 g3 g4 g5 g6 g7) A (wm g1 g2 g3 g4 g5 g6 g7 aM m1 m2 m3 m4 m5 m6 m7 d n (kdF kk) ht tk so lt sto ni ac bl t) y 1 100000) hK hP hD hS rfl hl.1 rfl (Nat.le_of_ble_eq_true rfl) ⟨Nat.le_of_ble_eq_true rfl, Nat.le_of_ble_eq_true rfl⟩ d_M_fill_12 ⟨Nat.le_refl _, Nat.le_refl _⟩ (fun H locs hP hD hS => ?_)
          rw [show zb (decide (1 ≤ y ∧ y ≤ 100000)) = 1 from by rw [decide_eq_true (h2)]; rfl]
          refine lv_if_ne (tgt := 20) hx hb d_M_fill_15 (by decide) (fun _ => ?_) (fun h9 => absurd h9 (by decide))
          refine lv_aload_n hx hb d_M_fill_20 rfl (lv_at hl 0 rfl) ?_
          refine zget (ci := 11) (fs := [.ref m1, .int (nI n), .ref m2, .ref m3, .ref m4, .ref m5, .ref m6, .long sto, .int ni, .int ac, .int bl, .ref m7, .int (nI t.2.1)]) E hK hP 0 rfl zC_M 7 (by decide) kw_597 (Or.inl rfl) rfl d_M_fill_21 ?_
          refine lv_iload_n hx hb d_M_fill_24 rfl (lv_at hl 2 rfl) ?_
          refine lv_i2l (v := (y : Int32).toInt64) hx hb d_M_fill_25 rfl ?_
          refine W.lcmp hx hb d_M_fill_26 ?_
          refine lv_if_ge (tgt := 33) hx hb d_M_fill_27 (by decide) (fun _ => ?_) (fun h9 => absurd ((lg_cmp_ge _ _).mpr h3) h9)
          refine lv_aload_n hx hb d_M_fill_33 rfl (lv_at hl 0 rfl) ?_
          refine zget (ci := 11) (fs := [.ref m1, .int (nI n), .ref m2, .ref m3, .ref m4, .ref m5, .ref m6, .long sto, .int ni, .int ac, .int bl, .ref m7, .int (nI t.2.1)]) E hK hP 0 rfl zC_M 4 (by decide) kw_594 (Or.inl rfl) rfl d_M_fill_34 ?_
          refine lv_iload_n hx hb d_M_fill_37 rfl (lv_at hl 1 rfl) ?_
          refine va_iald hx hb hK hP 4 3 rfl rfl (vp_in_nI hi (by decide)) d_M_fill_38 ?_
          rw [nI_clamp (i31 hi)]
          refine lv_iload_n hx hb d_M_fill_39 rfl (lv_at hl 2 rfl) ?_
          refine lv_iadd hx hb d_M_fill_40 ?_
          refine lv_ldc hx hb ho (hts _ kw_825) d_M_fill_41 ?_
          refine lv_icmp_le (tgt := 49) hx hb d_M_fill_43 (by decide) (fun _ => ?_) (fun h9 => absurd (h4) h9)
          refine lv_aload_n hx hb d_M_fill_49 rfl (lv_at hl 0 rfl) ?_
          refine lv_dup hx hb d_M_fill_50 rfl ?_
          refine zget (ci := 11) (fs := [.ref m1, .int (nI n), .ref m2, .ref m3, .ref m4, .ref m5, .ref m6, .long sto, .int ni, .int ac, .int bl, .ref m7, .int (nI t.2.1)]) E hK hP 0 rfl zC_M 7 (by decide) kw_597 (Or.inl rfl) rfl d_M_fill_51 ?_
          refine lv_iload_n hx hb d_M_fill_54 rfl (lv_at hl 2 rfl) ?_
          refine lv_i2l (v := (y : Int32).toInt64) hx hb d_M_fill_55 rfl ?_
          refine lv_lsub hx hb d_M_fill_56 ?_
          refine zput (ci := 11) (fs := [.ref m1, .int (nI n), .ref m2, .ref m3, .ref m4, .ref m5, .ref m6, .long sto, .int ni, .int ac, .int bl, .ref m7, .int (nI t.2.1)]) (ty := .long) (v := .long (sto - ((y : Int32).toInt64))) (ws2 := wm g1 g2 g3 g4 g5 g6 g7 aM m1 m2 m3 m4 m5 m6 m7 d n (kdF kk) ht tk so lt (sto - ((y : Int32).toInt64)) ni ac bl t) E hK hP hD hS 0 rfl zC_M t_M o_M n_M 7 (by decide) kw_597 (Or.inl rfl) rfl rfl rfl rfl (Nat.le_of_ble_eq_true rfl) d_M_fill_57 (rfl) (fun H locs hP hD hS => ?_)
          refine lv_aload_n hx hb d_M_fill_60 rfl (lv_at hl 0 rfl) ?_
          refine zget (ci := 11) (fs := [.ref m1, .int (nI n), .ref m2, .ref m3, .ref m4, .ref m5, .ref m6, .long (sto - ((y : Int32).toInt64)), .int ni, .int ac, .int bl, .ref m7, .int (nI t.2.1)]) E hK hP 0 rfl zC_M 4 (by decide) kw_594 (Or.inl rfl) rfl d_M_fill_61 ?_
          refine lv_iload_n hx hb d_M_fill_64 rfl (lv_at hl 1 rfl) ?_
          refine lv_dup2_11 hx hb d_M_fill_65 rfl rfl ?_
          refine va_iald hx hb hK hP 4 3 rfl rfl (vp_in_nI hi (by decide)) d_M_fill_66 ?_
          rw [nI_clamp (i31 hi)]
          refine lv_iload_n hx hb d_M_fill_67 rfl (lv_at hl 2 rfl) ?_
          refine lv_iadd hx hb d_M_fill_68 ?_
          refine va_iast hx hb hK hP hD hS 4 3 rfl rfl (vp_in_nI hi (by decide)) d_M_fill_69 (fun H locs hP hD hS => ?_)
          rw [nI_clamp (i31 hi)] at hP hD
          have hP : va_P (dC, dI) classes (wm g1 g2 g3 g4 g5 g6 g7 aM m1 m2 m3 m4 m5 m6 m7 d n (kdF kk) ht (upd tk i ((tk i) + y)) so lt (sto - ((y : Int32).toInt64)) ni ac bl t) H := hP
          have hD : va_D A (wm g1 g2 g3 g4 g5 g6 g7 aM m1 m2 m3 m4 m5 m6 m7 d n (kdF kk) ht (upd tk i ((tk i) + y)) so lt (sto - ((y : Int32).toInt64)) ni ac bl t) := hD
          refine lv_aload_n hx hb d_M_fill_70 rfl (lv_at hl 0 rfl) ?_
          refine zget (ci := 11) (fs := [.ref m1, .int (nI n), .ref m2, .ref m3, .ref m4, .ref m5, .ref m6, .long (sto - ((y : Int32).toInt64)), .int ni, .int ac, .int bl, .ref m7, .int (nI t.2.1)]) E hK hP 0 rfl zC_M 4 (by decide) kw_594 (Or.inl rfl) rfl d_M_fill_71 ?_
          refine lv_iload_n hx hb d_M_fill_74 rfl (lv_at hl 1 rfl) ?_
          refine va_iald hx hb hK hP 4 3 rfl rfl (vp_in_nI hi (by decide)) d_M_fill_75 ?_
          rw [nI_clamp (i31 hi)]
          rw [pk_us]
          exact zri E hK hP hD hS d_M_fill_76
        · have e9 : fillA (d, n, kk, ht, tk, so, lt, sto, ni, ac, bl, t) (nI i) y = (-2, (d, n, kk, ht, tk, so, lt, sto, ni, ac, bl, t)) := by show (if _ then _ else _) = _; rw [if_pos ⟨h1, h2⟩, if_pos h3, nI_clamp (i31 hi), if_neg h4]
          rw [e9]
          refine zM_of "CoastLampsModel" rfl (by decide) (Nat.le_of_ble_eq_true rfl) ?_
          intro p e s m below meth c ls E hP hK hD hS hl
          obtain ⟨hx, hb, hml, ho, hts, hr, hlk⟩ := id E
          have hl : lv_has ls 3 [(0, .ref aM), (1, .int (nI i)), (2, .int y)] := hl
          refine lv_aload_n hx hb d_M_fill_0 rfl (lv_at hl 0 rfl) ?_
          refine lv_iload_n hx hb d_M_fill_1 rfl (lv_at hl 1 rfl) ?_
          refine zcV (As := [.int (nI i)]) (rest := []) (ci := 11) E cy_M_isLamp kw_648 ks_4 kw_646 (c_M_isLamp l dC dI g1 g2 g3 g4 g5 g6 g7 A aM m1 m2 m3 m4 m5 m6 m7 d n (kdF kk) ht tk so lt sto ni ac bl t (nI i)) hK hP hD hS 0 rfl zC_M.1 rfl rfl hl.1 rfl (Nat.le_of_ble_eq_true rfl) ⟨Nat.le_of_ble_eq_true rfl, Nat.le_of_ble_eq_true rfl⟩ d_M_fill_2 ⟨Nat.le_refl _, Nat.le_refl _⟩ (fun H locs hP hD hS => ?_)
          rw [show zb (decide (0 ≤ nI i ∧ nI i ≤ nI n - 1)) = 1 from by rw [decide_eq_true (h1)]; rfl]
          refine lv_if_eq (tgt := 18) hx hb d_M_fill_5 (by decide) (fun h9 => absurd h9 (by decide)) (fun _ => ?_)
          refine lv_iload_n hx hb d_M_fill_8 rfl (lv_at hl 2 rfl) ?_
          refine lv_iconst (v := 1) hx hb d_M_fill_9 (by decide) ?_
          refine lv_ldc hx hb ho (hts _ kw_820) d_M_fill_10 ?_
          refine zcS (As := [.int y, .int 1, .int 100000]) (rest := []) E cy_M_in kw_636 kw_635 rfl (c_M_in l dC dI (t7 g1 g2 g3 g4 g5 g6 g7) A (wm g1 g2 g3 g4 g5 g6 g7 aM m1 m2 m3 m4 m5 m6 m7 d n (kdF kk) ht tk so lt sto ni ac bl t) y 1 100000) hK hP hD hS rfl hl.1 rfl (Nat.le_of_ble_eq_true rfl) ⟨Nat.le_of_ble_eq_true rfl, Nat.le_of_ble_eq_true rfl⟩ d_M_fill_12 ⟨Nat.le_refl _, Nat.le_refl _⟩ (fun H locs hP hD hS => ?_)
          rw [show zb (decide (1 ≤ y ∧ y ≤ 100000)) = 1 from by rw [decide_eq_true (h2)]; rfl]
          refine lv_if_ne (tgt := 20) hx hb d_M_fill_15 (by decide) (fun _ => ?_) (fun h9 => absurd h9 (by decide))
          refine lv_aload_n hx hb d_M_fill_20 rfl (lv_at hl 0 rfl) ?_
          refine zget (ci := 11) (fs := [.ref m1, .int (nI n), .ref m2, .ref m3, .ref m4, .ref m5, .ref m6, .long sto, .int ni, .int ac, .int bl, .ref m7, .int (nI t.2.1)]) E hK hP 0 rfl zC_M 7 (by decide) kw_597 (Or.inl rfl) rfl d_M_fill_21 ?_
          refine lv_iload_n hx hb d_M_fill_24 rfl (lv_at hl 2 rfl) ?_
          refine lv_i2l (v := (y : Int32).toInt64) hx hb d_M_fill_25 rfl ?_
          refine W.lcmp hx hb d_M_fill_26 ?_
          refine lv_if_ge (tgt := 33) hx hb d_M_fill_27 (by decide) (fun _ => ?_) (fun h9 => absurd ((lg_cmp_ge _ _).mpr h3) h9)
          refine lv_aload_n hx hb d_M_fill_33 rfl (lv_at hl 0 rfl) ?_
          refine zget (ci := 11) (fs := [.ref m1, .int (nI n), .ref m2, .ref m3, .ref m4, .ref m5, .ref m6, .long sto, .int ni, .int ac, .int bl, .ref m7, .int (nI t.2.1)]) E hK hP 0 rfl zC_M 4 (by decide) kw_594 (Or.inl rfl) rfl d_M_fill_34 ?_
          refine lv_iload_n hx hb d_M_fill_37 rfl (lv_at hl 1 rfl) ?_
          refine va_iald hx hb hK hP 4 3 rfl rfl (vp_in_nI hi (by decide)) d_M_fill_38 ?_
          rw [nI_clamp (i31 hi)]
          refine lv_iload_n hx hb d_M_fill_39 rfl (lv_at hl 2 rfl) ?_
          refine lv_iadd hx hb d_M_fill_40 ?_
          refine lv_ldc hx hb ho (hts _ kw_825) d_M_fill_41 ?_
          refine lv_icmp_le (tgt := 49) hx hb d_M_fill_43 (by decide) (fun h9 => absurd h9 (h4)) (fun _ => ?_)
          refine lv_bipush (v := (-2)) hx hb d_M_fill_46 (by decide) ?_
          exact zri E hK hP hD hS d_M_fill_48
      · have e9 : fillA (d, n, kk, ht, tk, so, lt, sto, ni, ac, bl, t) (nI i) y = (-3, (d, n, kk, ht, tk, so, lt, sto, ni, ac, bl, t)) := by show (if _ then _ else _) = _; rw [if_pos ⟨h1, h2⟩, if_neg h3]
        rw [e9]
        refine zM_of "CoastLampsModel" rfl (by decide) (Nat.le_of_ble_eq_true rfl) ?_
        intro p e s m below meth c ls E hP hK hD hS hl
        obtain ⟨hx, hb, hml, ho, hts, hr, hlk⟩ := id E
        have hl : lv_has ls 3 [(0, .ref aM), (1, .int (nI i)), (2, .int y)] := hl
        refine lv_aload_n hx hb d_M_fill_0 rfl (lv_at hl 0 rfl) ?_
        refine lv_iload_n hx hb d_M_fill_1 rfl (lv_at hl 1 rfl) ?_
        refine zcV (As := [.int (nI i)]) (rest := []) (ci := 11) E cy_M_isLamp kw_648 ks_4 kw_646 (c_M_isLamp l dC dI g1 g2 g3 g4 g5 g6 g7 A aM m1 m2 m3 m4 m5 m6 m7 d n (kdF kk) ht tk so lt sto ni ac bl t (nI i)) hK hP hD hS 0 rfl zC_M.1 rfl rfl hl.1 rfl (Nat.le_of_ble_eq_true rfl) ⟨Nat.le_of_ble_eq_true rfl, Nat.le_of_ble_eq_true rfl⟩ d_M_fill_2 ⟨Nat.le_refl _, Nat.le_refl _⟩ (fun H locs hP hD hS => ?_)
        rw [show zb (decide (0 ≤ nI i ∧ nI i ≤ nI n - 1)) = 1 from by rw [decide_eq_true (h1)]; rfl]
        refine lv_if_eq (tgt := 18) hx hb d_M_fill_5 (by decide) (fun h9 => absurd h9 (by decide)) (fun _ => ?_)
        refine lv_iload_n hx hb d_M_fill_8 rfl (lv_at hl 2 rfl) ?_
        refine lv_iconst (v := 1) hx hb d_M_fill_9 (by decide) ?_
        refine lv_ldc hx hb ho (hts _ kw_820) d_M_fill_10 ?_
        refine zcS (As := [.int y, .int 1, .int 100000]) (rest := []) E cy_M_in kw_636 kw_635 rfl (c_M_in l dC dI (t7 g1 g2 g3 g4 g5 g6 g7) A (wm g1 g2 g3 g4 g5 g6 g7 aM m1 m2 m3 m4 m5 m6 m7 d n (kdF kk) ht tk so lt sto ni ac bl t) y 1 100000) hK hP hD hS rfl hl.1 rfl (Nat.le_of_ble_eq_true rfl) ⟨Nat.le_of_ble_eq_true rfl, Nat.le_of_ble_eq_true rfl⟩ d_M_fill_12 ⟨Nat.le_refl _, Nat.le_refl _⟩ (fun H locs hP hD hS => ?_)
        rw [show zb (decide (1 ≤ y ∧ y ≤ 100000)) = 1 from by rw [decide_eq_true (h2)]; rfl]
        refine lv_if_ne (tgt := 20) hx hb d_M_fill_15 (by decide) (fun _ => ?_) (fun h9 => absurd h9 (by decide))
        refine lv_aload_n hx hb d_M_fill_20 rfl (lv_at hl 0 rfl) ?_
        refine zget (ci := 11) (fs := [.ref m1, .int (nI n), .ref m2, .ref m3, .ref m4, .ref m5, .ref m6, .long sto, .int ni, .int ac, .int bl, .ref m7, .int (nI t.2.1)]) E hK hP 0 rfl zC_M 7 (by decide) kw_597 (Or.inl rfl) rfl d_M_fill_21 ?_
        refine lv_iload_n hx hb d_M_fill_24 rfl (lv_at hl 2 rfl) ?_
        refine lv_i2l (v := (y : Int32).toInt64) hx hb d_M_fill_25 rfl ?_
        refine W.lcmp hx hb d_M_fill_26 ?_
        refine lv_if_ge (tgt := 33) hx hb d_M_fill_27 (by decide) (fun h9 => absurd h9 (fun h => h3 ((lg_cmp_ge _ _).mp h))) (fun _ => ?_)
        refine lv_bipush (v := (-3)) hx hb d_M_fill_30 (by decide) ?_
        exact zri E hK hP hD hS d_M_fill_32
    · have e9 : fillA (d, n, kk, ht, tk, so, lt, sto, ni, ac, bl, t) x y = (-1, (d, n, kk, ht, tk, so, lt, sto, ni, ac, bl, t)) := by show (if _ then _ else _) = _; rw [if_neg (fun h => h2 h.2)]
      rw [e9]
      refine zM_of "CoastLampsModel" rfl (by decide) (Nat.le_of_ble_eq_true rfl) ?_
      intro p e s m below meth c ls E hP hK hD hS hl
      obtain ⟨hx, hb, hml, ho, hts, hr, hlk⟩ := id E
      have hl : lv_has ls 3 [(0, .ref aM), (1, .int x), (2, .int y)] := hl
      refine lv_aload_n hx hb d_M_fill_0 rfl (lv_at hl 0 rfl) ?_
      refine lv_iload_n hx hb d_M_fill_1 rfl (lv_at hl 1 rfl) ?_
      refine zcV (As := [.int x]) (rest := []) (ci := 11) E cy_M_isLamp kw_648 ks_4 kw_646 (c_M_isLamp l dC dI g1 g2 g3 g4 g5 g6 g7 A aM m1 m2 m3 m4 m5 m6 m7 d n (kdF kk) ht tk so lt sto ni ac bl t x) hK hP hD hS 0 rfl zC_M.1 rfl rfl hl.1 rfl (Nat.le_of_ble_eq_true rfl) ⟨Nat.le_of_ble_eq_true rfl, Nat.le_of_ble_eq_true rfl⟩ d_M_fill_2 ⟨Nat.le_refl _, Nat.le_refl _⟩ (fun H locs hP hD hS => ?_)
      rw [show zb (decide (0 ≤ x ∧ x ≤ nI n - 1)) = 1 from by rw [decide_eq_true (h1)]; rfl]
      refine lv_if_eq (tgt := 18) hx hb d_M_fill_5 (by decide) (fun h9 => absurd h9 (by decide)) (fun _ => ?_)
      refine lv_iload_n hx hb d_M_fill_8 rfl (lv_at hl 2 rfl) ?_
      refine lv_iconst (v := 1) hx hb d_M_fill_9 (by decide) ?_
      refine lv_ldc hx hb ho (hts _ kw_820) d_M_fill_10 ?_
      refine zcS (As := [.int y, .int 1, .int 100000]) (rest := []) E cy_M_in kw_636 kw_635 rfl (c_M_in l dC dI (t7 g1 g2 g3 g4 g5 g6 g7) A (wm g1 g2 g3 g4 g5 g6 g7 aM m1 m2 m3 m4 m5 m6 m7 d n (kdF kk) ht tk so lt sto ni ac bl t) y 1 100000) hK hP hD hS rfl hl.1 rfl (Nat.le_of_ble_eq_true rfl) ⟨Nat.le_of_ble_eq_true rfl, Nat.le_of_ble_eq_true rfl⟩ d_M_fill_12 ⟨Nat.le_refl _, Nat.le_refl _⟩ (fun H locs hP hD hS => ?_)
      rw [show zb (decide (1 ≤ y ∧ y ≤ 100000)) = 0 from by rw [decide_eq_false (h2)]; rfl]
      refine lv_if_ne (tgt := 20) hx hb d_M_fill_15 (by decide) (fun h9 => absurd (rfl) h9) (fun _ => ?_)
      refine lv_iconst (v := (-1)) hx hb d_M_fill_18 (by decide) ?_
      exact zri E hK hP hD hS d_M_fill_19
  · have e9 : fillA (d, n, kk, ht, tk, so, lt, sto, ni, ac, bl, t) x y = (-1, (d, n, kk, ht, tk, so, lt, sto, ni, ac, bl, t)) := by show (if _ then _ else _) = _; rw [if_neg (fun h => h1 h.1)]
    rw [e9]
    refine zM_of "CoastLampsModel" rfl (by decide) (Nat.le_of_ble_eq_true rfl) ?_
    intro p e s m below meth c ls E hP hK hD hS hl
    obtain ⟨hx, hb, hml, ho, hts, hr, hlk⟩ := id E
    have hl : lv_has ls 3 [(0, .ref aM), (1, .int x), (2, .int y)] := hl
    refine lv_aload_n hx hb d_M_fill_0 rfl (lv_at hl 0 rfl) ?_
    refine lv_iload_n hx hb d_M_fill_1 rfl (lv_at hl 1 rfl) ?_
    refine zcV (As := [.int x]) (rest := []) (ci := 11) E cy_M_isLamp kw_648 ks_4 kw_646 (c_M_isLamp l dC dI g1 g2 g3 g4 g5 g6 g7 A aM m1 m2 m3 m4 m5 m6 m7 d n (kdF kk) ht tk so lt sto ni ac bl t x) hK hP hD hS 0 rfl zC_M.1 rfl rfl hl.1 rfl (Nat.le_of_ble_eq_true rfl) ⟨Nat.le_of_ble_eq_true rfl, Nat.le_of_ble_eq_true rfl⟩ d_M_fill_2 ⟨Nat.le_refl _, Nat.le_refl _⟩ (fun H locs hP hD hS => ?_)
    rw [show zb (decide (0 ≤ x ∧ x ≤ nI n - 1)) = 0 from by rw [decide_eq_false (h1)]; rfl]
    refine lv_if_eq (tgt := 18) hx hb d_M_fill_5 (by decide) (fun _ => ?_) (fun h9 => absurd (rfl) h9)
    refine lv_iconst (v := (-1)) hx hb d_M_fill_18 (by decide) ?_
    exact zri E hK hP hD hS d_M_fill_19
set_option maxHeartbeats 1000000 in
set_option maxRecDepth 100000 in
theorem c_M_light (l : Launch) (dC : Nat → ClassId) (dI : Nat → Nat → Nat) (g1 g2 g3 g4 g5 g6 g7 : ClassId) (A : Nat → Prop) (aM m1 m2 m3 m4 m5 m6 m7 : Nat) (d : Nat → Int32) (n : Nat) (kk : Nat → Nat) (ht tk so lt : Nat → Int32) (sto : Int64) (ni ac bl : Int32) (t : zT) (hI : zInv (d, n, kk, ht, tk, so, lt, sto, ni, ac, bl, t)) (x y : Int32) (hy : y = 0 ∨ y = 1) : zM l y_M_light b_M_light 3 (some (FieldType.int)) 2 43 [.ref aM, .int x, .int y] (dC, dI) (t7 g1 g2 g3 g4 g5 g6 g7) A (mW g1 g2 g3 g4 g5 g6 g7 aM m1 m2 m3 m4 m5 m6 m7 (d, n, kk, ht, tk, so, lt, sto, ni, ac, bl, t)) (mW g1 g2 g3 g4 g5 g6 g7 aM m1 m2 m3 m4 m5 m6 m7 (lightA (d, n, kk, ht, tk, so, lt, sto, ni, ac, bl, t) x y).2) (some (.int (lightA (d, n, kk, ht, tk, so, lt, sto, ni, ac, bl, t) x y).1)) := by
  obtain ⟨hn, hkk, hz⟩ : n ≤ 60 ∧ (∀ i, i < n → kk i < 9) ∧ ∀ i, n ≤ i → tk i = 0 ∧ so i = 0 ∧ lt i = 0 := hI
  by_cases h1 : 0 ≤ x ∧ x ≤ nI n - 1
  · obtain ⟨i, hi0, rfl⟩ := isL_of (Nat.le_trans hn (by decide)) h1
    have hi : i < 60 := Nat.lt_of_lt_of_le hi0 hn
    by_cases h3 : lt i = y
    · have e9 : lightA (d, n, kk, ht, tk, so, lt, sto, ni, ac, bl, t) (nI i) y = (0, (d, n, kk, ht, tk, so, lt, sto, ni, ac, bl, t)) := by show (if _ then _ else _) = _; rw [if_pos h1, nI_clamp (i31 hi), if_pos h3]
      rw [e9]
      refine zM_of "CoastLampsModel" rfl (by decide) (Nat.le_of_ble_eq_true rfl) ?_
      intro p e s m below meth c ls E hP hK hD hS hl
      obtain ⟨hx, hb, hml, ho, hts, hr, hlk⟩ := id E
      have hl : lv_has ls 3 [(0, .ref aM), (1, .int (nI i)), (2, .int y)] := hl
      refine lv_aload_n hx hb d_M_light_0 rfl (lv_at hl 0 rfl) ?_
      refine lv_iload_n hx hb d_M_light_1 rfl (lv_at hl 1 rfl) ?_
      refine zcV (As := [.int (nI i)]) (rest := []) (ci := 11) E cy_M_isLamp kw_648 ks_4 kw_646 (c_M_isLamp l dC dI g1 g2 g3 g4 g5 g6 g7 A aM m1 m2 m3 m4 m5 m6 m7 d n (kdF kk) ht tk so lt sto ni ac bl t (nI i)) hK hP hD hS 0 rfl zC_M.1 rfl rfl hl.1 rfl (Nat.le_of_ble_eq_true rfl) ⟨Nat.le_of_ble_eq_true rfl, Nat.le_of_ble_eq_true rfl⟩ d_M_light_2 ⟨Nat.le_refl _, Nat.le_refl _⟩ (fun H locs hP hD hS => ?_)
      rw [show zb (decide (0 ≤ nI i ∧ nI i ≤ nI n - 1)) = 1 from by rw [decide_eq_true (h1)]; rfl]
      refine lv_if_ne (tgt := 10) hx hb d_M_light_5 (by decide) (fun _ => ?_) (fun h9 => absurd h9 (by decide))
      refine lv_aload_n hx hb d_M_light_10 rfl (lv_at hl 0 rfl) ?_
      refine zget (ci := 11) (fs := [.ref m1, .int (nI n), .ref m2, .ref m3, .ref m4, .ref m5, .ref m6, .long sto, .int ni, .int ac, .int bl, .ref m7, .int (nI t.2.1)]) E hK hP 0 rfl zC_M 6 (by decide) kw_596 (Or.inl rfl) rfl d_M_light_11 ?_
      refine lv_iload_n hx hb d_M_light_14 rfl (lv_at hl 1 rfl) ?_
      refine va_zald hx hb hK hP 6 5 rfl rfl (vp_in_nI hi (by decide)) d_M_light_15 ?_
      rw [nI_clamp (i31 hi)]
      refine lv_iload_n hx hb d_M_light_16 rfl (lv_at hl 2 rfl) ?_
      refine lv_icmp_ne (tgt := 22) hx hb d_M_light_17 (by decide) (fun h9 => absurd (h3) h9) (fun _ => ?_)
      refine lv_iconst (v := 0) hx hb d_M_light_20 (by decide) ?_
      exact zri E hK hP hD hS d_M_light_21
    · by_cases h4 : y = 0
      · have e9 : lightA (d, n, kk, ht, tk, so, lt, sto, ni, ac, bl, t) (nI i) y = (1, (d, n, kk, ht, tk, so, upd lt i y, sto, ni, ac, bl, t)) := by show (if _ then _ else _) = _; rw [if_pos h1, nI_clamp (i31 hi), if_neg h3, if_neg (fun h => h.1 h4)]
        rw [e9]
        refine zM_of "CoastLampsModel" rfl (by decide) (Nat.le_of_ble_eq_true rfl) ?_
        intro p e s m below meth c ls E hP hK hD hS hl
        obtain ⟨hx, hb, hml, ho, hts, hr, hlk⟩ := id E
        have hl : lv_has ls 3 [(0, .ref aM), (1, .int (nI i)), (2, .int y)] := hl
        refine lv_aload_n hx hb d_M_light_0 rfl (lv_at hl 0 rfl) ?_
        refine lv_iload_n hx hb d_M_light_1 rfl (lv_at hl 1 rfl) ?_
        refine zcV (As := [.int (nI i)]) (rest := []) (ci := 11) E cy_M_isLamp kw_648 ks_4 kw_646 (c_M_isLamp l dC dI g1 g2 g3 g4 g5 g6 g7 A aM m1 m2 m3 m4 m5 m6 m7 d n (kdF kk) ht tk so lt sto ni ac bl t (nI i)) hK hP hD hS 0 rfl zC_M.1 rfl rfl hl.1 rfl (Nat.le_of_ble_eq_true rfl) ⟨Nat.le_of_ble_eq_true rfl, Nat.le_of_ble_eq_true rfl⟩ d_M_light_2 ⟨Nat.le_refl _, Nat.le_refl _⟩ (fun H locs hP hD hS => ?_)
        rw [show zb (decide (0 ≤ nI i ∧ nI i ≤ nI n - 1)) = 1 from by rw [decide_eq_true (h1)]; rfl]
        refine lv_if_ne (tgt := 10) hx hb d_M_light_5 (by decide) (fun _ => ?_) (fun h9 => absurd h9 (by decide))
        refine lv_aload_n hx hb d_M_light_10 rfl (lv_at hl 0 rfl) ?_
        refine zget (ci := 11) (fs := [.ref m1, .int (nI n), .ref m2, .ref m3, .ref m4, .ref m5, .ref m6, .long sto, .int ni, .int ac, .int bl, .ref m7, .int (nI t.2.1)]) E hK hP 0 rfl zC_M 6 (by decide) kw_596 (Or.inl rfl) rfl d_M_light_11 ?_
        refine lv_iload_n hx hb d_M_light_14 rfl (lv_at hl 1 rfl) ?_
        refine va_zald hx hb hK hP 6 5 rfl rfl (vp_in_nI hi (by decide)) d_M_light_15 ?_
        rw [nI_clamp (i31 hi)]
        refine lv_iload_n hx hb d_M_light_16 rfl (lv_at hl 2 rfl) ?_
        refine lv_icmp_ne (tgt := 22) hx hb d_M_light_17 (by decide) (fun _ => ?_) (fun h9 => absurd h9 (h3))
        refine lv_iload_n hx hb d_M_light_22 rfl (lv_at hl 2 rfl) ?_
        refine lv_if_eq (tgt := 38) hx hb d_M_light_23 (by decide) (fun _ => ?_) (fun h9 => absurd (h4) h9)
        refine lv_aload_n hx hb d_M_light_38 rfl (lv_at hl 0 rfl) ?_
        refine zget (ci := 11) (fs := [.ref m1, .int (nI n), .ref m2, .ref m3, .ref m4, .ref m5, .ref m6, .long sto, .int ni, .int ac, .int bl, .ref m7, .int (nI t.2.1)]) E hK hP 0 rfl zC_M 6 (by decide) kw_596 (Or.inl rfl) rfl d_M_light_39 ?_
        refine lv_iload_n hx hb d_M_light_42 rfl (lv_at hl 1 rfl) ?_
        refine lv_iload_n hx hb d_M_light_43 rfl (lv_at hl 2 rfl) ?_
        refine va_zast hx hb hK hP hD hS 6 5 rfl rfl (vp_in_nI hi (by decide)) d_M_light_44 (fun H locs hP hD hS => ?_)
        rw [nI_clamp (i31 hi)] at hP hD
        rw [show vp_nar .boolean y = y from by rcases hy with rfl | rfl <;> rfl] at hP hD
        have hP : va_P (dC, dI) classes (wm g1 g2 g3 g4 g5 g6 g7 aM m1 m2 m3 m4 m5 m6 m7 d n (kdF kk) ht tk so (upd lt i y) sto ni ac bl t) H := hP
        have hD : va_D A (wm g1 g2 g3 g4 g5 g6 g7 aM m1 m2 m3 m4 m5 m6 m7 d n (kdF kk) ht tk so (upd lt i y) sto ni ac bl t) := hD
        refine lv_iconst (v := 1) hx hb d_M_light_45 (by decide) ?_
        exact zri E hK hP hD hS d_M_light_46
      · by_cases h5 : tk i = 0
        · have e9 : lightA (d, n, kk, ht, tk, so, lt, sto, ni, ac, bl, t) (nI i) y = (-3, (d, n, kk, ht, tk, so, lt, sto, ni, ac, bl, t)) := by show (if _ then _ else _) = _; rw [if_pos h1, nI_clamp (i31 hi), if_neg h3, if_pos ⟨h4, h5⟩]
          rw [e9]
          refine zM_of "CoastLampsModel" rfl (by decide) (Nat.le_of_ble_eq_true rfl) ?_
          intro p e s m below meth c ls E hP hK hD hS hl
          obtain ⟨hx, hb, hml, ho, hts, hr, hlk⟩ := id E
          have hl : lv_has ls 3 [(0, .ref aM), (1, .int (nI i)), (2, .int y)] := hl
          refine lv_aload_n hx hb d_M_light_0 rfl (lv_at hl 0 rfl) ?_
          refine lv_iload_n hx hb d_M_light_1 rfl (lv_at hl 1 rfl) ?_
          refine zcV (As := [.int (nI i)]) (rest := []) (ci := 11) E cy_M_isLamp kw_648 ks_4 kw_646 (c_M_isLamp l dC dI g1 g2 g3 g4 g5 g6 g7 A aM m1 m2 m3 m4 m5 m6 m7 d n (kdF kk) ht tk so lt sto ni ac bl t (nI i)) hK hP hD hS 0 rfl zC_M.1 rfl rfl hl.1 rfl (Nat.le_of_ble_eq_true rfl) ⟨Nat.le_of_ble_eq_true rfl, Nat.le_of_ble_eq_true rfl⟩ d_M_light_2 ⟨Nat.le_refl _, Nat.le_refl _⟩ (fun H locs hP hD hS => ?_)
          rw [show zb (decide (0 ≤ nI i ∧ nI i ≤ nI n - 1)) = 1 from by rw [decide_eq_true (h1)]; rfl]
          refine lv_if_ne (tgt := 10) hx hb d_M_light_5 (by decide) (fun _ => ?_) (fun h9 => absurd h9 (by decide))
          refine lv_aload_n hx hb d_M_light_10 rfl (lv_at hl 0 rfl) ?_
          refine zget (ci := 11) (fs := [.ref m1, .int (nI n), .ref m2, .ref m3, .ref m4, .ref m5, .ref m6, .long sto, .int ni, .int ac, .int bl, .ref m7, .int (nI t.2.1)]) E hK hP 0 rfl zC_M 6 (by decide) kw_596 (Or.inl rfl) rfl d_M_light_11 ?_
          refine lv_iload_n hx hb d_M_light_14 rfl (lv_at hl 1 rfl) ?_
          refine va_zald hx hb hK hP 6 5 rfl rfl (vp_in_nI hi (by decide)) d_M_light_15 ?_
          rw [nI_clamp (i31 hi)]
          refine lv_iload_n hx hb d_M_light_16 rfl (lv_at hl 2 rfl) ?_
          refine lv_icmp_ne (tgt := 22) hx hb d_M_light_17 (by decide) (fun _ => ?_) (fun h9 => absurd h9 (h3))
          refine lv_iload_n hx hb d_M_light_22 rfl (lv_at hl 2 rfl) ?_
          refine lv_if_eq (tgt := 38) hx hb d_M_light_23 (by decide) (fun h9 => absurd h9 (h4)) (fun _ => ?_)
          refine lv_aload_n hx hb d_M_light_26 rfl (lv_at hl 0 rfl) ?_
          refine zget (ci := 11) (fs := [.ref m1, .int (nI n), .ref m2, .ref m3, .ref m4, .ref m5, .ref m6, .long sto, .int ni, .int ac, .int bl, .ref m7, .int (nI t.2.1)]) E hK hP 0 rfl zC_M 4 (by decide) kw_594 (Or.inl rfl) rfl d_M_light_27 ?_
          refine lv_iload_n hx hb d_M_light_30 rfl (lv_at hl 1 rfl) ?_
          refine va_iald hx hb hK hP 4 3 rfl rfl (vp_in_nI hi (by decide)) d_M_light_31 ?_
          rw [nI_clamp (i31 hi)]
          refine lv_if_ne (tgt := 38) hx hb d_M_light_32 (by decide) (fun h9 => absurd (h5) h9) (fun _ => ?_)
          refine lv_bipush (v := (-3)) hx hb d_M_light_35 (by decide) ?_
          exact zri E hK hP hD hS d_M_light_37
        · have e9 : lightA (d, n, kk, ht, tk, so, lt, sto, ni, ac, bl, t) (nI i) y = (1, (d, n, kk, ht, tk, so, upd lt i y, sto, ni, ac, bl, t)) := by show (if _ then _ else _) = _; rw [if_pos h1, nI_clamp (i31 hi), if_neg h3, if_neg (fun h => h5 h.2)]
          rw [e9]
          refine zM_of "CoastLampsModel" rfl (by decide) (Nat.le_of_ble_eq_true rfl) ?_
          intro p e s m below meth c ls E hP hK hD hS hl
          obtain ⟨hx, hb, hml, ho, hts, hr, hlk⟩ := id E
          have hl : lv_has ls 3 [(0, .ref aM), (1, .int (nI i)), (2, .int y)] := hl
          refine lv_aload_n hx hb d_M_light_0 rfl (lv_at hl 0 rfl) ?_
          refine lv_iload_n hx hb d_M_light_1 rfl (lv_at hl 1 rfl) ?_
          refine zcV (As := [.int (nI i)]) (rest := []) (ci := 11) E cy_M_isLamp kw_648 ks_4 kw_646 (c_M_isLamp l dC dI g1 g2 g3 g4 g5 g6 g7 A aM m1 m2 m3 m4 m5 m6 m7 d n (kdF kk) ht tk so lt sto ni ac bl t (nI i)) hK hP hD hS 0 rfl zC_M.1 rfl rfl hl.1 rfl (Nat.le_of_ble_eq_true rfl) ⟨Nat.le_of_ble_eq_true rfl, Nat.le_of_ble_eq_true rfl⟩ d_M_light_2 ⟨Nat.le_refl _, Nat.le_refl _⟩ (fun H locs hP hD hS => ?_)
          rw [show zb (decide (0 ≤ nI i ∧ nI i ≤ nI n - 1)) = 1 from by rw [decide_eq_true (h1)]; rfl]
          refine lv_if_ne (tgt := 10) hx hb d_M_light_5 (by decide) (fun _ => ?_) (fun h9 => absurd h9 (by decide))
          refine lv_aload_n hx hb d_M_light_10 rfl (lv_at hl 0 rfl) ?_
          refine zget (ci := 11) (fs := [.ref m1, .int (nI n), .ref m2, .ref m3, .ref m4, .ref m5, .ref m6, .long sto, .int ni, .int ac, .int bl, .ref m7, .int (nI t.2.1)]) E hK hP 0 rfl zC_M 6 (by decide) kw_596 (Or.inl rfl) rfl d_M_light_11 ?_
          refine lv_iload_n hx hb d_M_light_14 rfl (lv_at hl 1 rfl) ?_
          refine va_zald hx hb hK hP 6 5 rfl rfl (vp_in_nI hi (by decide)) d_M_light_15 ?_
          rw [nI_clamp (i31 hi)]
          refine lv_iload_n hx hb d_M_light_16 rfl (lv_at hl 2 rfl) ?_
          refine lv_icmp_ne (tgt := 22) hx hb d_M_light_17 (by decide) (fun _ => ?_) (fun h9 => absurd h9 (h3))
          refine lv_iload_n hx hb d_M_light_22 rfl (lv_at hl 2 rfl) ?_
          refine lv_if_eq (tgt := 38) hx hb d_M_light_23 (by decide) (fun h9 => absurd h9 (h4)) (fun _ => ?_)
          refine lv_aload_n hx hb d_M_light_26 rfl (lv_at hl 0 rfl) ?_
          refine zget (ci := 11) (fs := [.ref m1, .int (nI n), .ref m2, .ref m3, .ref m4, .ref m5, .ref m6, .long sto, .int ni, .int ac, .int bl, .ref m7, .int (nI t.2.1)]) E hK hP 0 rfl zC_M 4 (by decide) kw_594 (Or.inl rfl) rfl d_M_light_27 ?_
          refine lv_iload_n hx hb d_M_light_30 rfl (lv_at hl 1 rfl) ?_
          refine va_iald hx hb hK hP 4 3 rfl rfl (vp_in_nI hi (by decide)) d_M_light_31 ?_
          rw [nI_clamp (i31 hi)]
          refine lv_if_ne (tgt := 38) hx hb d_M_light_32 (by decide) (fun _ => ?_) (fun h9 => absurd h9 (h5))
          refine lv_aload_n hx hb d_M_light_38 rfl (lv_at hl 0 rfl) ?_
          refine zget (ci := 11) (fs := [.ref m1, .int (nI n), .ref m2, .ref m3, .ref m4, .ref m5, .ref m6, .long sto, .int ni, .int ac, .int bl, .ref m7, .int (nI t.2.1)]) E hK hP 0 rfl zC_M 6 (by decide) kw_596 (Or.inl rfl) rfl d_M_light_39 ?_
          refine lv_iload_n hx hb d_M_light_42 rfl (lv_at hl 1 rfl) ?_
          refine lv_iload_n hx hb d_M_light_43 rfl (lv_at hl 2 rfl) ?_
          refine va_zast hx hb hK hP hD hS 6 5 rfl rfl (vp_in_nI hi (by decide)) d_M_light_44 (fun H locs hP hD hS => ?_)
          rw [nI_clamp (i31 hi)] at hP hD
          rw [show vp_nar .boolean y = y from by rcases hy with rfl | rfl <;> rfl] at hP hD
          have hP : va_P (dC, dI) classes (wm g1 g2 g3 g4 g5 g6 g7 aM m1 m2 m3 m4 m5 m6 m7 d n (kdF kk) ht tk so (upd lt i y) sto ni ac bl t) H := hP
          have hD : va_D A (wm g1 g2 g3 g4 g5 g6 g7 aM m1 m2 m3 m4 m5 m6 m7 d n (kdF kk) ht tk so (upd lt i y) sto ni ac bl t) := hD
          refine lv_iconst (v := 1) hx hb d_M_light_45 (by decide) ?_
          exact zri E hK hP hD hS d_M_light_46
  · have e9 : lightA (d, n, kk, ht, tk, so, lt, sto, ni, ac, bl, t) x y = (-1, (d, n, kk, ht, tk, so, lt, sto, ni, ac, bl, t)) := by show (if _ then _ else _) = _; rw [if_neg h1]
    rw [e9]
    refine zM_of "CoastLampsModel" rfl (by decide) (Nat.le_of_ble_eq_true rfl) ?_
    intro p e s m below meth c ls E hP hK hD hS hl
    obtain ⟨hx, hb, hml, ho, hts, hr, hlk⟩ := id E
    have hl : lv_has ls 3 [(0, .ref aM), (1, .int x), (2, .int y)] := hl
    refine lv_aload_n hx hb d_M_light_0 rfl (lv_at hl 0 rfl) ?_
    refine lv_iload_n hx hb d_M_light_1 rfl (lv_at hl 1 rfl) ?_
    refine zcV (As := [.int x]) (rest := []) (ci := 11) E cy_M_isLamp kw_648 ks_4 kw_646 (c_M_isLamp l dC dI g1 g2 g3 g4 g5 g6 g7 A aM m1 m2 m3 m4 m5 m6 m7 d n (kdF kk) ht tk so lt sto ni ac bl t x) hK hP hD hS 0 rfl zC_M.1 rfl rfl hl.1 rfl (Nat.le_of_ble_eq_true rfl) ⟨Nat.le_of_ble_eq_true rfl, Nat.le_of_ble_eq_true rfl⟩ d_M_light_2 ⟨Nat.le_refl _, Nat.le_refl _⟩ (fun H locs hP hD hS => ?_)
    rw [show zb (decide (0 ≤ x ∧ x ≤ nI n - 1)) = 0 from by rw [decide_eq_false (h1)]; rfl]
    refine lv_if_ne (tgt := 10) hx hb d_M_light_5 (by decide) (fun h9 => absurd (rfl) h9) (fun _ => ?_)
    refine lv_iconst (v := (-1)) hx hb d_M_light_8 (by decide) ?_
    exact zri E hK hP hD hS d_M_light_9
set_option maxHeartbeats 1000000 in
set_option maxRecDepth 100000 in
theorem c_M_blow (l : Launch) (dC : Nat → ClassId) (dI : Nat → Nat → Nat) (g1 g2 g3 g4 g5 g6 g7 : ClassId) (A : Nat → Prop) (aM m1 m2 m3 m4 m5 m6 m7 : Nat) (d : Nat → Int32) (n : Nat) (kk : Nat → Nat) (ht tk so lt : Nat → Int32) (sto : Int64) (ni ac bl : Int32) (t : zT) (hI : zInv (d, n, kk, ht, tk, so, lt, sto, ni, ac, bl, t)) (x y : Int32) : zM l y_M_blow b_M_blow 3 (some (FieldType.int)) 8 171 [.ref aM, .int x, .int y] (dC, dI) (t7 g1 g2 g3 g4 g5 g6 g7) A (mW g1 g2 g3 g4 g5 g6 g7 aM m1 m2 m3 m4 m5 m6 m7 (d, n, kk, ht, tk, so, lt, sto, ni, ac, bl, t)) (mW g1 g2 g3 g4 g5 g6 g7 aM m1 m2 m3 m4 m5 m6 m7 (blowA (d, n, kk, ht, tk, so, lt, sto, ni, ac, bl, t) x y).2) (some (.int (blowA (d, n, kk, ht, tk, so, lt, sto, ni, ac, bl, t) x y).1)) := by
  obtain ⟨hn, hkk, hz⟩ : n ≤ 60 ∧ (∀ i, i < n → kk i < 9) ∧ ∀ i, n ≤ i → tk i = 0 ∧ so i = 0 ∧ lt i = 0 := hI
  by_cases h1 : 0 ≤ x ∧ x ≤ nI n - 1
  · obtain ⟨i, hi0, rfl⟩ := isL_of (Nat.le_trans hn (by decide)) h1
    have hi : i < 60 := Nat.lt_of_lt_of_le hi0 hn
    have hkd : kdF kk i = nI (kk i + 1) := rfl
    cases hh : hornedK (kk i)
    · have e9 : blowA (d, n, kk, ht, tk, so, lt, sto, ni, ac, bl, t) (nI i) y = (-4, (d, n, kk, ht, tk, so, lt, sto, ni, ac + 1, bl, t0 t)) := by show (if _ then _ else _) = _; rw [if_pos h1, nI_clamp (i31 hi), if_pos hh]
      rw [e9]
      refine zM_of "CoastLampsModel" rfl (by decide) (Nat.le_of_ble_eq_true rfl) ?_
      intro p e s m below meth c ls E hP hK hD hS hl
      obtain ⟨hx, hb, hml, ho, hts, hr, hlk⟩ := id E
      have hl : lv_has ls 3 [(0, .ref aM), (1, .int (nI i)), (2, .int y)] := hl
      refine lv_aload_n hx hb d_M_blow_0 rfl (lv_at hl 0 rfl) ?_
      refine lv_iload_n hx hb d_M_blow_1 rfl (lv_at hl 1 rfl) ?_
      refine zcV (As := [.int (nI i)]) (rest := []) (ci := 11) E cy_M_isLamp kw_648 ks_4 kw_646 (c_M_isLamp l dC dI g1 g2 g3 g4 g5 g6 g7 A aM m1 m2 m3 m4 m5 m6 m7 d n (kdF kk) ht tk so lt sto ni ac bl t (nI i)) hK hP hD hS 0 rfl zC_M.1 rfl rfl hl.1 rfl (Nat.le_of_ble_eq_true rfl) ⟨Nat.le_of_ble_eq_true rfl, Nat.le_of_ble_eq_true rfl⟩ d_M_blow_2 ⟨Nat.le_refl _, Nat.le_refl _⟩ (fun H locs hP hD hS => ?_)
      rw [show zb (decide (0 ≤ nI i ∧ nI i ≤ nI n - 1)) = 1 from by rw [decide_eq_true (h1)]; rfl]
      refine lv_if_ne (tgt := 10) hx hb d_M_blow_5 (by decide) (fun _ => ?_) (fun h9 => absurd h9 (by decide))
      refine lv_aload_n hx hb d_M_blow_10 rfl (lv_at hl 0 rfl) ?_
      refine zcV (As := []) (rest := []) (ci := 11) E cy_M_act kw_653 ks_5 kw_651 (c_M_act l dC dI g1 g2 g3 g4 g5 g6 g7 A aM m1 m2 m3 m4 m5 m6 m7 d n (kdF kk) ht tk so lt sto ni ac bl t) hK hP hD hS 0 rfl zC_M.1 rfl rfl hl.1 rfl (Nat.le_of_ble_eq_true rfl) ⟨Nat.le_of_ble_eq_true rfl, Nat.le_of_ble_eq_true rfl⟩ d_M_blow_11 ⟨Nat.le_refl _, Nat.le_refl _⟩ (fun H locs hP hD hS => ?_)
      have hP : va_P (dC, dI) classes (wm g1 g2 g3 g4 g5 g6 g7 aM m1 m2 m3 m4 m5 m6 m7 d n (kdF kk) ht tk so lt sto ni (ac + 1) bl (t.1, ⟨0, by decide⟩)) H := hP
      have hD : va_D A (wm g1 g2 g3 g4 g5 g6 g7 aM m1 m2 m3 m4 m5 m6 m7 d n (kdF kk) ht tk so lt sto ni (ac + 1) bl (t.1, ⟨0, by decide⟩)) := hD
      have hP : va_P (dC, dI) classes (wm g1 g2 g3 g4 g5 g6 g7 aM m1 m2 m3 m4 m5 m6 m7 d n (kdF kk) ht tk so lt sto ni (ac + 1) bl (t0 t)) H := hP
      have hD : va_D A (wm g1 g2 g3 g4 g5 g6 g7 aM m1 m2 m3 m4 m5 m6 m7 d n (kdF kk) ht tk so lt sto ni (ac + 1) bl (t0 t)) := hD
      refine lv_aload_n hx hb d_M_blow_14 rfl (lv_at hl 0 rfl) ?_
      refine lv_iload_n hx hb d_M_blow_15 rfl (lv_at hl 1 rfl) ?_
      refine zcV (As := [.int (nI i)]) (rest := []) (ci := 11) E cy_M_isHorned kw_657 ks_6 kw_655 (c_M_isHorned l dC dI g1 g2 g3 g4 g5 g6 g7 A aM m1 m2 m3 m4 m5 m6 m7 d n (kdF kk) ht tk so lt sto ni (ac + 1) bl (t0 t) i hi (kk i) (hkk i hi0) rfl) hK hP hD hS 0 rfl zC_M.1 rfl rfl hl.1 rfl (Nat.le_of_ble_eq_true rfl) ⟨Nat.le_of_ble_eq_true rfl, Nat.le_of_ble_eq_true rfl⟩ d_M_blow_16 ⟨Nat.le_refl _, Nat.le_refl _⟩ (fun H locs hP hD hS => ?_)
      rw [hh, show zb false = 0 from rfl]
      refine lv_if_ne (tgt := 25) hx hb d_M_blow_19 (by decide) (fun h9 => absurd (rfl) h9) (fun _ => ?_)
      refine lv_bipush (v := (-4)) hx hb d_M_blow_22 (by decide) ?_
      exact zri E hK hP hD hS d_M_blow_24
    · have e9 : blowA (d, n, kk, ht, tk, so, lt, sto, ni, ac, bl, t) (nI i) y = (1, (d, n, kk, ht, tk, upd so i (hornK (kk i) d (ht i) (tk i) y (so i, t0 t)).2.1, lt, sto, ni, ac + 1, (hornK (kk i) d (ht i) (tk i) y (so i, t0 t)).1, (hornK (kk i) d (ht i) (tk i) y (so i, t0 t)).2.2)) := by show (if _ then _ else _) = _; rw [if_pos h1, nI_clamp (i31 hi), if_neg (by rw [hh]; decide)]
      rw [e9]
      refine zM_of "CoastLampsModel" rfl (by decide) (Nat.le_of_ble_eq_true rfl) ?_
      intro p e s m below meth c ls E hP hK hD hS hl
      obtain ⟨hx, hb, hml, ho, hts, hr, hlk⟩ := id E
      have hl : lv_has ls 3 [(0, .ref aM), (1, .int (nI i)), (2, .int y)] := hl
      refine lv_aload_n hx hb d_M_blow_0 rfl (lv_at hl 0 rfl) ?_
      refine lv_iload_n hx hb d_M_blow_1 rfl (lv_at hl 1 rfl) ?_
      refine zcV (As := [.int (nI i)]) (rest := []) (ci := 11) E cy_M_isLamp kw_648 ks_4 kw_646 (c_M_isLamp l dC dI g1 g2 g3 g4 g5 g6 g7 A aM m1 m2 m3 m4 m5 m6 m7 d n (kdF kk) ht tk so lt sto ni ac bl t (nI i)) hK hP hD hS 0 rfl zC_M.1 rfl rfl hl.1 rfl (Nat.le_of_ble_eq_true rfl) ⟨Nat.le_of_ble_eq_true rfl, Nat.le_of_ble_eq_true rfl⟩ d_M_blow_2 ⟨Nat.le_refl _, Nat.le_refl _⟩ (fun H locs hP hD hS => ?_)
      rw [show zb (decide (0 ≤ nI i ∧ nI i ≤ nI n - 1)) = 1 from by rw [decide_eq_true (h1)]; rfl]
      refine lv_if_ne (tgt := 10) hx hb d_M_blow_5 (by decide) (fun _ => ?_) (fun h9 => absurd h9 (by decide))
      refine lv_aload_n hx hb d_M_blow_10 rfl (lv_at hl 0 rfl) ?_
      refine zcV (As := []) (rest := []) (ci := 11) E cy_M_act kw_653 ks_5 kw_651 (c_M_act l dC dI g1 g2 g3 g4 g5 g6 g7 A aM m1 m2 m3 m4 m5 m6 m7 d n (kdF kk) ht tk so lt sto ni ac bl t) hK hP hD hS 0 rfl zC_M.1 rfl rfl hl.1 rfl (Nat.le_of_ble_eq_true rfl) ⟨Nat.le_of_ble_eq_true rfl, Nat.le_of_ble_eq_true rfl⟩ d_M_blow_11 ⟨Nat.le_refl _, Nat.le_refl _⟩ (fun H locs hP hD hS => ?_)
      have hP : va_P (dC, dI) classes (wm g1 g2 g3 g4 g5 g6 g7 aM m1 m2 m3 m4 m5 m6 m7 d n (kdF kk) ht tk so lt sto ni (ac + 1) bl (t.1, ⟨0, by decide⟩)) H := hP
      have hD : va_D A (wm g1 g2 g3 g4 g5 g6 g7 aM m1 m2 m3 m4 m5 m6 m7 d n (kdF kk) ht tk so lt sto ni (ac + 1) bl (t.1, ⟨0, by decide⟩)) := hD
      have hP : va_P (dC, dI) classes (wm g1 g2 g3 g4 g5 g6 g7 aM m1 m2 m3 m4 m5 m6 m7 d n (kdF kk) ht tk so lt sto ni (ac + 1) bl (t0 t)) H := hP
      have hD : va_D A (wm g1 g2 g3 g4 g5 g6 g7 aM m1 m2 m3 m4 m5 m6 m7 d n (kdF kk) ht tk so lt sto ni (ac + 1) bl (t0 t)) := hD
      refine lv_aload_n hx hb d_M_blow_14 rfl (lv_at hl 0 rfl) ?_
      refine lv_iload_n hx hb d_M_blow_15 rfl (lv_at hl 1 rfl) ?_
      refine zcV (As := [.int (nI i)]) (rest := []) (ci := 11) E cy_M_isHorned kw_657 ks_6 kw_655 (c_M_isHorned l dC dI g1 g2 g3 g4 g5 g6 g7 A aM m1 m2 m3 m4 m5 m6 m7 d n (kdF kk) ht tk so lt sto ni (ac + 1) bl (t0 t) i hi (kk i) (hkk i hi0) rfl) hK hP hD hS 0 rfl zC_M.1 rfl rfl hl.1 rfl (Nat.le_of_ble_eq_true rfl) ⟨Nat.le_of_ble_eq_true rfl, Nat.le_of_ble_eq_true rfl⟩ d_M_blow_16 ⟨Nat.le_refl _, Nat.le_refl _⟩ (fun H locs hP hD hS => ?_)
      rw [hh, show zb true = 1 from rfl]
      refine lv_if_ne (tgt := 25) hx hb d_M_blow_19 (by decide) (fun _ => ?_) (fun h9 => absurd h9 (by decide))
      refine lv_aload_n hx hb d_M_blow_25 rfl (lv_at hl 0 rfl) ?_
      refine lv_aload_n hx hb d_M_blow_26 rfl (lv_at hl 0 rfl) ?_
      refine lv_iload_n hx hb d_M_blow_27 rfl (lv_at hl 1 rfl) ?_
      refine lv_iload_n hx hb d_M_blow_28 rfl (lv_at hl 2 rfl) ?_
      have hP : va_P (dC, dI) classes (wm g1 g2 g3 g4 g5 g6 g7 aM m1 m2 m3 m4 m5 m6 m7 d n (kdF kk) ht tk (upd so i ((so i, t0 t) : zS).1) lt sto ni (ac + 1) bl ((so i, t0 t) : zS).2) H := by rw [show upd so i (((so i, t0 t) : zS)).1 = so from upd_me so i]; exact hP
      have hD : va_D A (wm g1 g2 g3 g4 g5 g6 g7 aM m1 m2 m3 m4 m5 m6 m7 d n (kdF kk) ht tk (upd so i ((so i, t0 t) : zS).1) lt sto ni (ac + 1) bl ((so i, t0 t) : zS).2) := by rw [show upd so i (((so i, t0 t) : zS)).1 = so from upd_me so i]; exact hD
      refine zcV (As := [.int (nI i), .int y]) (rest := [.ref aM]) (ci := 11) E cy_M_horn kw_790 ks_39 kw_788 (c_M_horn l dC dI g1 g2 g3 g4 g5 g6 g7 A aM m1 m2 m3 m4 m5 m6 m7 d n (kdF kk) ht tk so lt sto ni (ac + 1) bl i hi (so i, t0 t) (kk i) (hkk i hi0) hkd hh y) hK hP hD hS 0 rfl zC_M.1 rfl rfl hl.1 rfl (Nat.le_of_ble_eq_true rfl) ⟨Nat.le_of_ble_eq_true rfl, Nat.le_of_ble_eq_true rfl⟩ d_M_blow_29 ⟨Nat.le_refl _, Nat.le_refl _⟩ (fun H locs hP hD hS => ?_)
      have hP : va_P (dC, dI) classes (wm g1 g2 g3 g4 g5 g6 g7 aM m1 m2 m3 m4 m5 m6 m7 d n (kdF kk) ht tk (upd so i ((hornK (kk i) d (ht i) (tk i) y (so i, t0 t)).2 : zS).1) lt sto ni (ac + 1) bl ((hornK (kk i) d (ht i) (tk i) y (so i, t0 t)).2 : zS).2) H := hP
      have hD : va_D A (wm g1 g2 g3 g4 g5 g6 g7 aM m1 m2 m3 m4 m5 m6 m7 d n (kdF kk) ht tk (upd so i ((hornK (kk i) d (ht i) (tk i) y (so i, t0 t)).2 : zS).1) lt sto ni (ac + 1) bl ((hornK (kk i) d (ht i) (tk i) y (so i, t0 t)).2 : zS).2) := hD
      refine zput (ci := 11) (fs := [.ref m1, .int (nI n), .ref m2, .ref m3, .ref m4, .ref m5, .ref m6, .long sto, .int ni, .int (ac + 1), .int bl, .ref m7, .int (nI (((hornK (kk i) d (ht i) (tk i) y (so i, t0 t)).2).2).2.1)]) (ty := .int) (v := .int ((hornK (kk i) d (ht i) (tk i) y (so i, t0 t)).1)) (ws2 := wm g1 g2 g3 g4 g5 g6 g7 aM m1 m2 m3 m4 m5 m6 m7 d n (kdF kk) ht tk (upd so i ((hornK (kk i) d (ht i) (tk i) y (so i, t0 t)).2).1) lt sto ni (ac + 1) ((hornK (kk i) d (ht i) (tk i) y (so i, t0 t)).1) (((hornK (kk i) d (ht i) (tk i) y (so i, t0 t)).2).2)) E hK hP hD hS 0 rfl zC_M t_M o_M n_M 10 (by decide) kw_600 (Or.inl rfl) rfl rfl rfl rfl (Nat.le_of_ble_eq_true rfl) d_M_blow_32 (rfl) (fun H locs hP hD hS => ?_)
      refine lv_iconst (v := 1) hx hb d_M_blow_35 (by decide) ?_
      exact zri E hK hP hD hS d_M_blow_36
  · have e9 : blowA (d, n, kk, ht, tk, so, lt, sto, ni, ac, bl, t) x y = (-1, (d, n, kk, ht, tk, so, lt, sto, ni, ac, bl, t)) := by show (if _ then _ else _) = _; rw [if_neg h1]
    rw [e9]
    refine zM_of "CoastLampsModel" rfl (by decide) (Nat.le_of_ble_eq_true rfl) ?_
    intro p e s m below meth c ls E hP hK hD hS hl
    obtain ⟨hx, hb, hml, ho, hts, hr, hlk⟩ := id E
    have hl : lv_has ls 3 [(0, .ref aM), (1, .int x), (2, .int y)] := hl
    refine lv_aload_n hx hb d_M_blow_0 rfl (lv_at hl 0 rfl) ?_
    refine lv_iload_n hx hb d_M_blow_1 rfl (lv_at hl 1 rfl) ?_
    refine zcV (As := [.int x]) (rest := []) (ci := 11) E cy_M_isLamp kw_648 ks_4 kw_646 (c_M_isLamp l dC dI g1 g2 g3 g4 g5 g6 g7 A aM m1 m2 m3 m4 m5 m6 m7 d n (kdF kk) ht tk so lt sto ni ac bl t x) hK hP hD hS 0 rfl zC_M.1 rfl rfl hl.1 rfl (Nat.le_of_ble_eq_true rfl) ⟨Nat.le_of_ble_eq_true rfl, Nat.le_of_ble_eq_true rfl⟩ d_M_blow_2 ⟨Nat.le_refl _, Nat.le_refl _⟩ (fun H locs hP hD hS => ?_)
    rw [show zb (decide (0 ≤ x ∧ x ≤ nI n - 1)) = 0 from by rw [decide_eq_false (h1)]; rfl]
    refine lv_if_ne (tgt := 10) hx hb d_M_blow_5 (by decide) (fun h9 => absurd (rfl) h9) (fun _ => ?_)
    refine lv_iconst (v := (-1)) hx hb d_M_blow_8 (by decide) ?_
    exact zri E hK hP hD hS d_M_blow_9
set_option maxHeartbeats 1000000 in
set_option maxRecDepth 100000 in
theorem c_M_blown (l : Launch) (dC : Nat → ClassId) (dI : Nat → Nat → Nat) (g1 g2 g3 g4 g5 g6 g7 : ClassId) (A : Nat → Prop) (aM m1 m2 m3 m4 m5 m6 m7 : Nat) (d : Nat → Int32) (n : Nat) (kk : Nat → Nat) (ht tk so lt : Nat → Int32) (sto : Int64) (ni ac bl : Int32) (t : zT) (hI : zInv (d, n, kk, ht, tk, so, lt, sto, ni, ac, bl, t)) : zM l y_M_blown b_M_blown 1 (some (FieldType.int)) 0 0 [.ref aM] (dC, dI) (t7 g1 g2 g3 g4 g5 g6 g7) A (mW g1 g2 g3 g4 g5 g6 g7 aM m1 m2 m3 m4 m5 m6 m7 (d, n, kk, ht, tk, so, lt, sto, ni, ac, bl, t)) (mW g1 g2 g3 g4 g5 g6 g7 aM m1 m2 m3 m4 m5 m6 m7 (d, n, kk, ht, tk, so, lt, sto, ni, ac, bl, t)) (some (.int (blownA (d, n, kk, ht, tk, so, lt, sto, ni, ac, bl, t)))) := by
  obtain ⟨hn, hkk, hz⟩ : n ≤ 60 ∧ (∀ i, i < n → kk i < 9) ∧ ∀ i, n ≤ i → tk i = 0 ∧ so i = 0 ∧ lt i = 0 := hI
  refine zM_of "CoastLampsModel" rfl (by decide) (Nat.le_of_ble_eq_true rfl) ?_
  intro p e s m below meth c ls E hP hK hD hS hl
  obtain ⟨hx, hb, hml, ho, hts, hr, hlk⟩ := id E
  have hl : lv_has ls 1 [(0, .ref aM)] := hl
  refine lv_aload_n hx hb d_M_blown_0 rfl (lv_at hl 0 rfl) ?_
  refine zget (ci := 11) (fs := [.ref m1, .int (nI n), .ref m2, .ref m3, .ref m4, .ref m5, .ref m6, .long sto, .int ni, .int ac, .int bl, .ref m7, .int (nI t.2.1)]) E hK hP 0 rfl zC_M 10 (by decide) kw_600 (Or.inl rfl) rfl d_M_blown_1 ?_
  exact zri E hK hP hD hS d_M_blown_4
set_option maxHeartbeats 1000000 in
set_option maxRecDepth 100000 in
theorem c_M_store (l : Launch) (dC : Nat → ClassId) (dI : Nat → Nat → Nat) (g1 g2 g3 g4 g5 g6 g7 : ClassId) (A : Nat → Prop) (aM m1 m2 m3 m4 m5 m6 m7 : Nat) (d : Nat → Int32) (n : Nat) (kk : Nat → Nat) (ht tk so lt : Nat → Int32) (sto : Int64) (ni ac bl : Int32) (t : zT) (hI : zInv (d, n, kk, ht, tk, so, lt, sto, ni, ac, bl, t)) : zM l y_M_store b_M_store 1 (some (FieldType.long)) 0 0 [.ref aM] (dC, dI) (t7 g1 g2 g3 g4 g5 g6 g7) A (mW g1 g2 g3 g4 g5 g6 g7 aM m1 m2 m3 m4 m5 m6 m7 (d, n, kk, ht, tk, so, lt, sto, ni, ac, bl, t)) (mW g1 g2 g3 g4 g5 g6 g7 aM m1 m2 m3 m4 m5 m6 m7 (d, n, kk, ht, tk, so, lt, sto, ni, ac, bl, t)) (some (.long (storeA (d, n, kk, ht, tk, so, lt, sto, ni, ac, bl, t)))) := by
  obtain ⟨hn, hkk, hz⟩ : n ≤ 60 ∧ (∀ i, i < n → kk i < 9) ∧ ∀ i, n ≤ i → tk i = 0 ∧ so i = 0 ∧ lt i = 0 := hI
  refine zM_of "CoastLampsModel" rfl (by decide) (Nat.le_of_ble_eq_true rfl) ?_
  intro p e s m below meth c ls E hP hK hD hS hl
  obtain ⟨hx, hb, hml, ho, hts, hr, hlk⟩ := id E
  have hl : lv_has ls 1 [(0, .ref aM)] := hl
  refine lv_aload_n hx hb d_M_store_0 rfl (lv_at hl 0 rfl) ?_
  refine zget (ci := 11) (fs := [.ref m1, .int (nI n), .ref m2, .ref m3, .ref m4, .ref m5, .ref m6, .long sto, .int ni, .int ac, .int bl, .ref m7, .int (nI t.2.1)]) E hK hP 0 rfl zC_M 7 (by decide) kw_597 (Or.inl rfl) rfl d_M_store_1 ?_
  exact zrl E hK hP hD hS d_M_store_4
set_option maxHeartbeats 1000000 in
set_option maxRecDepth 100000 in
theorem c_M_count (l : Launch) (dC : Nat → ClassId) (dI : Nat → Nat → Nat) (g1 g2 g3 g4 g5 g6 g7 : ClassId) (A : Nat → Prop) (aM m1 m2 m3 m4 m5 m6 m7 : Nat) (d : Nat → Int32) (n : Nat) (kk : Nat → Nat) (ht tk so lt : Nat → Int32) (sto : Int64) (ni ac bl : Int32) (t : zT) (hI : zInv (d, n, kk, ht, tk, so, lt, sto, ni, ac, bl, t)) (y : Int32) : zM l y_M_count b_M_count 2 (some (FieldType.int)) 0 0 [.ref aM, .int y] (dC, dI) (t7 g1 g2 g3 g4 g5 g6 g7) A (mW g1 g2 g3 g4 g5 g6 g7 aM m1 m2 m3 m4 m5 m6 m7 (d, n, kk, ht, tk, so, lt, sto, ni, ac, bl, t)) (mW g1 g2 g3 g4 g5 g6 g7 aM m1 m2 m3 m4 m5 m6 m7 (d, n, kk, ht, tk, so, lt, sto, ni, ac, bl, t)) (some (.int (countA (d, n, kk, ht, tk, so, lt, sto, ni, ac, bl, t) y))) := by
  obtain ⟨hn, hkk, hz⟩ : n ≤ 60 ∧ (∀ i, i < n → kk i < 9) ∧ ∀ i, n ≤ i → tk i = 0 ∧ so i = 0 ∧ lt i = 0 := hI
  by_cases h0 : y = 0
  · have e9 : countA (d, n, kk, ht, tk, so, lt, sto, ni, ac, bl, t) y = nI n := by show (if _ then _ else _) = _; rw [if_pos h0]
    rw [e9]
    refine zM_of "CoastLampsModel" rfl (by decide) (Nat.le_of_ble_eq_true rfl) ?_
    intro p e s m below meth c ls E hP hK hD hS hl
    obtain ⟨hx, hb, hml, ho, hts, hr, hlk⟩ := id E
    have hl : lv_has ls 2 [(0, .ref aM), (1, .int y)] := hl
    refine lv_iload_n hx hb d_M_count_0 rfl (lv_at hl 1 rfl) ?_
    refine lv_if_ne (tgt := 11) hx hb d_M_count_1 (by decide) (fun h9 => absurd (h0) h9) (fun _ => ?_)
    refine lv_aload_n hx hb d_M_count_4 rfl (lv_at hl 0 rfl) ?_
    refine zget (ci := 11) (fs := [.ref m1, .int (nI n), .ref m2, .ref m3, .ref m4, .ref m5, .ref m6, .long sto, .int ni, .int ac, .int bl, .ref m7, .int (nI t.2.1)]) E hK hP 0 rfl zC_M 1 (by decide) kw_591 (Or.inl rfl) rfl d_M_count_5 ?_
    refine lv_goto (tgt := 48) hx hb d_M_count_8 (by decide) ?_
    exact zri E hK hP hD hS d_M_count_48
  · by_cases h1 : y = 1
    · have e9 : countA (d, n, kk, ht, tk, so, lt, sto, ni, ac, bl, t) y = ni := by show (if _ then _ else _) = _; rw [if_neg h0, if_pos h1]
      rw [e9]
      refine zM_of "CoastLampsModel" rfl (by decide) (Nat.le_of_ble_eq_true rfl) ?_
      intro p e s m below meth c ls E hP hK hD hS hl
      obtain ⟨hx, hb, hml, ho, hts, hr, hlk⟩ := id E
      have hl : lv_has ls 2 [(0, .ref aM), (1, .int y)] := hl
      refine lv_iload_n hx hb d_M_count_0 rfl (lv_at hl 1 rfl) ?_
      refine lv_if_ne (tgt := 11) hx hb d_M_count_1 (by decide) (fun _ => ?_) (fun h9 => absurd h9 (h0))
      refine lv_iload_n hx hb d_M_count_11 rfl (lv_at hl 1 rfl) ?_
      refine lv_iconst (v := 1) hx hb d_M_count_12 (by decide) ?_
      refine lv_icmp_ne (tgt := 23) hx hb d_M_count_13 (by decide) (fun h9 => absurd (h1) h9) (fun _ => ?_)
      refine lv_aload_n hx hb d_M_count_16 rfl (lv_at hl 0 rfl) ?_
      refine zget (ci := 11) (fs := [.ref m1, .int (nI n), .ref m2, .ref m3, .ref m4, .ref m5, .ref m6, .long sto, .int ni, .int ac, .int bl, .ref m7, .int (nI t.2.1)]) E hK hP 0 rfl zC_M 8 (by decide) kw_598 (Or.inl rfl) rfl d_M_count_17 ?_
      refine lv_goto (tgt := 48) hx hb d_M_count_20 (by decide) ?_
      exact zri E hK hP hD hS d_M_count_48
    · by_cases h2 : y = 2
      · have e9 : countA (d, n, kk, ht, tk, so, lt, sto, ni, ac, bl, t) y = nI t.2.1 := by show (if _ then _ else _) = _; rw [if_neg h0, if_neg h1, if_pos h2]
        rw [e9]
        refine zM_of "CoastLampsModel" rfl (by decide) (Nat.le_of_ble_eq_true rfl) ?_
        intro p e s m below meth c ls E hP hK hD hS hl
        obtain ⟨hx, hb, hml, ho, hts, hr, hlk⟩ := id E
        have hl : lv_has ls 2 [(0, .ref aM), (1, .int y)] := hl
        refine lv_iload_n hx hb d_M_count_0 rfl (lv_at hl 1 rfl) ?_
        refine lv_if_ne (tgt := 11) hx hb d_M_count_1 (by decide) (fun _ => ?_) (fun h9 => absurd h9 (h0))
        refine lv_iload_n hx hb d_M_count_11 rfl (lv_at hl 1 rfl) ?_
        refine lv_iconst (v := 1) hx hb d_M_count_12 (by decide) ?_
        refine lv_icmp_ne (tgt := 23) hx hb d_M_count_13 (by decide) (fun _ => ?_) (fun h9 => absurd h9 (h1))
        refine lv_iload_n hx hb d_M_count_23 rfl (lv_at hl 1 rfl) ?_
        refine lv_iconst (v := 2) hx hb d_M_count_24 (by decide) ?_
        refine lv_icmp_ne (tgt := 35) hx hb d_M_count_25 (by decide) (fun h9 => absurd (h2) h9) (fun _ => ?_)
        refine lv_aload_n hx hb d_M_count_28 rfl (lv_at hl 0 rfl) ?_
        refine zget (ci := 11) (fs := [.ref m1, .int (nI n), .ref m2, .ref m3, .ref m4, .ref m5, .ref m6, .long sto, .int ni, .int ac, .int bl, .ref m7, .int (nI t.2.1)]) E hK hP 0 rfl zC_M 12 (by decide) kw_602 (Or.inl rfl) rfl d_M_count_29 ?_
        refine lv_goto (tgt := 48) hx hb d_M_count_32 (by decide) ?_
        exact zri E hK hP hD hS d_M_count_48
      · by_cases h3 : y = 3
        · have e9 : countA (d, n, kk, ht, tk, so, lt, sto, ni, ac, bl, t) y = ac := by show (if _ then _ else _) = _; rw [if_neg h0, if_neg h1, if_neg h2, if_pos h3]
          rw [e9]
          refine zM_of "CoastLampsModel" rfl (by decide) (Nat.le_of_ble_eq_true rfl) ?_
          intro p e s m below meth c ls E hP hK hD hS hl
          obtain ⟨hx, hb, hml, ho, hts, hr, hlk⟩ := id E
          have hl : lv_has ls 2 [(0, .ref aM), (1, .int y)] := hl
          refine lv_iload_n hx hb d_M_count_0 rfl (lv_at hl 1 rfl) ?_
          refine lv_if_ne (tgt := 11) hx hb d_M_count_1 (by decide) (fun _ => ?_) (fun h9 => absurd h9 (h0))
          refine lv_iload_n hx hb d_M_count_11 rfl (lv_at hl 1 rfl) ?_
          refine lv_iconst (v := 1) hx hb d_M_count_12 (by decide) ?_
          refine lv_icmp_ne (tgt := 23) hx hb d_M_count_13 (by decide) (fun _ => ?_) (fun h9 => absurd h9 (h1))
          refine lv_iload_n hx hb d_M_count_23 rfl (lv_at hl 1 rfl) ?_
          refine lv_iconst (v := 2) hx hb d_M_count_24 (by decide) ?_
          refine lv_icmp_ne (tgt := 35) hx hb d_M_count_25 (by decide) (fun _ => ?_) (fun h9 => absurd h9 (h2))
          refine lv_iload_n hx hb d_M_count_35 rfl (lv_at hl 1 rfl) ?_
          refine lv_iconst (v := 3) hx hb d_M_count_36 (by decide) ?_
          refine lv_icmp_ne (tgt := 47) hx hb d_M_count_37 (by decide) (fun h9 => absurd (h3) h9) (fun _ => ?_)
          refine lv_aload_n hx hb d_M_count_40 rfl (lv_at hl 0 rfl) ?_
          refine zget (ci := 11) (fs := [.ref m1, .int (nI n), .ref m2, .ref m3, .ref m4, .ref m5, .ref m6, .long sto, .int ni, .int ac, .int bl, .ref m7, .int (nI t.2.1)]) E hK hP 0 rfl zC_M 9 (by decide) kw_599 (Or.inl rfl) rfl d_M_count_41 ?_
          refine lv_goto (tgt := 48) hx hb d_M_count_44 (by decide) ?_
          exact zri E hK hP hD hS d_M_count_48
        · have e9 : countA (d, n, kk, ht, tk, so, lt, sto, ni, ac, bl, t) y = -1 := by show (if _ then _ else _) = _; rw [if_neg h0, if_neg h1, if_neg h2, if_neg h3]
          rw [e9]
          refine zM_of "CoastLampsModel" rfl (by decide) (Nat.le_of_ble_eq_true rfl) ?_
          intro p e s m below meth c ls E hP hK hD hS hl
          obtain ⟨hx, hb, hml, ho, hts, hr, hlk⟩ := id E
          have hl : lv_has ls 2 [(0, .ref aM), (1, .int y)] := hl
          refine lv_iload_n hx hb d_M_count_0 rfl (lv_at hl 1 rfl) ?_
          refine lv_if_ne (tgt := 11) hx hb d_M_count_1 (by decide) (fun _ => ?_) (fun h9 => absurd h9 (h0))
          refine lv_iload_n hx hb d_M_count_11 rfl (lv_at hl 1 rfl) ?_
          refine lv_iconst (v := 1) hx hb d_M_count_12 (by decide) ?_
          refine lv_icmp_ne (tgt := 23) hx hb d_M_count_13 (by decide) (fun _ => ?_) (fun h9 => absurd h9 (h1))
          refine lv_iload_n hx hb d_M_count_23 rfl (lv_at hl 1 rfl) ?_
          refine lv_iconst (v := 2) hx hb d_M_count_24 (by decide) ?_
          refine lv_icmp_ne (tgt := 35) hx hb d_M_count_25 (by decide) (fun _ => ?_) (fun h9 => absurd h9 (h2))
          refine lv_iload_n hx hb d_M_count_35 rfl (lv_at hl 1 rfl) ?_
          refine lv_iconst (v := 3) hx hb d_M_count_36 (by decide) ?_
          refine lv_icmp_ne (tgt := 47) hx hb d_M_count_37 (by decide) (fun _ => ?_) (fun h9 => absurd h9 (h3))
          refine lv_iconst (v := (-1)) hx hb d_M_count_47 (by decide) ?_
          exact zri E hK hP hD hS d_M_count_48
theorem sw_out5 {y : Int32} (g0 : ¬ y = 0) (g1 : ¬ y = 1) (g2 : ¬ y = 2) (g3 : ¬ y = 3) (g4 : ¬ y = 4) (g5 : ¬ y = 5) : y.toInt < 0 ∨ 5 < y.toInt := by
  have a0 := lv_neT g0 (a := 0) (by decide)
  have a1 := lv_neT g1 (a := 1) (by decide)
  have a2 := lv_neT g2 (a := 2) (by decide)
  have a3 := lv_neT g3 (a := 3) (by decide)
  have a4 := lv_neT g4 (a := 4) (by decide)
  have a5 := lv_neT g5 (a := 5) (by decide)
  omega
set_option maxHeartbeats 1000000 in
set_option maxRecDepth 100000 in
theorem c_M_told (l : Launch) (dC : Nat → ClassId) (dI : Nat → Nat → Nat) (g1 g2 g3 g4 g5 g6 g7 : ClassId) (A : Nat → Prop) (aM m1 m2 m3 m4 m5 m6 m7 : Nat) (d : Nat → Int32) (n : Nat) (kk : Nat → Nat) (ht tk so lt : Nat → Int32) (sto : Int64) (ni ac bl : Int32) (t : zT) (hI : zInv (d, n, kk, ht, tk, so, lt, sto, ni, ac, bl, t)) (x y : Int32) : zM l y_M_told b_M_told 3 (some (FieldType.long)) 2 43 [.ref aM, .int x, .int y] (dC, dI) (t7 g1 g2 g3 g4 g5 g6 g7) A (mW g1 g2 g3 g4 g5 g6 g7 aM m1 m2 m3 m4 m5 m6 m7 (d, n, kk, ht, tk, so, lt, sto, ni, ac, bl, t)) (mW g1 g2 g3 g4 g5 g6 g7 aM m1 m2 m3 m4 m5 m6 m7 (d, n, kk, ht, tk, so, lt, sto, ni, ac, bl, t)) (some (.long (toldA (d, n, kk, ht, tk, so, lt, sto, ni, ac, bl, t) x y))) := by
  obtain ⟨hn, hkk, hz⟩ : n ≤ 60 ∧ (∀ i, i < n → kk i < 9) ∧ ∀ i, n ≤ i → tk i = 0 ∧ so i = 0 ∧ lt i = 0 := hI
  by_cases h1 : 0 ≤ x ∧ x ≤ nI n - 1
  · obtain ⟨i, hi0, rfl⟩ := isL_of (Nat.le_trans hn (by decide)) h1
    have hi : i < 60 := Nat.lt_of_lt_of_le hi0 hn
    have hkd : kdF kk i = nI (kk i + 1) := rfl
    by_cases v0 : y = 0
    · have e9 : toldA (d, n, kk, ht, tk, so, lt, sto, ni, ac, bl, t) (nI i) y = (nI (kk i + 1)).toInt64 := by show (if _ then _ else _) = _; rw [if_pos h1, if_pos v0, nI_clamp (i31 hi)]
      rw [e9]
      refine zM_of "CoastLampsModel" rfl (by decide) (Nat.le_of_ble_eq_true rfl) ?_
      intro p e s m below meth c ls E hP hK hD hS hl
      obtain ⟨hx, hb, hml, ho, hts, hr, hlk⟩ := id E
      have hl : lv_has ls 3 [(0, .ref aM), (1, .int (nI i)), (2, .int y)] := hl
      refine lv_aload_n hx hb d_M_told_0 rfl (lv_at hl 0 rfl) ?_
      refine lv_iload_n hx hb d_M_told_1 rfl (lv_at hl 1 rfl) ?_
      refine zcV (As := [.int (nI i)]) (rest := []) (ci := 11) E cy_M_isLamp kw_648 ks_4 kw_646 (c_M_isLamp l dC dI g1 g2 g3 g4 g5 g6 g7 A aM m1 m2 m3 m4 m5 m6 m7 d n (kdF kk) ht tk so lt sto ni ac bl t (nI i)) hK hP hD hS 0 rfl zC_M.1 rfl rfl hl.1 rfl (Nat.le_of_ble_eq_true rfl) ⟨Nat.le_of_ble_eq_true rfl, Nat.le_of_ble_eq_true rfl⟩ d_M_told_2 ⟨Nat.le_refl _, Nat.le_refl _⟩ (fun H locs hP hD hS => ?_)
      rw [show zb (decide (0 ≤ nI i ∧ nI i ≤ nI n - 1)) = 1 from by rw [decide_eq_true (h1)]; rfl]
      refine lv_if_ne (tgt := 12) hx hb d_M_told_5 (by decide) (fun _ => ?_) (fun h9 => absurd h9 (by decide))
      refine lv_iload_n hx hb d_M_told_12 rfl (lv_at hl 2 rfl) ?_
      refine lv_tableIn (off := 39) (tgt := 52) hx hb d_M_told_13 (by rw [v0]; decide) (by rw [v0]; decide) (by rw [v0]; decide) (by decide) ?_
      refine lv_aload_n hx hb d_M_told_52 rfl (lv_at hl 0 rfl) ?_
      refine zget (ci := 11) (fs := [.ref m1, .int (nI n), .ref m2, .ref m3, .ref m4, .ref m5, .ref m6, .long sto, .int ni, .int ac, .int bl, .ref m7, .int (nI t.2.1)]) E hK hP 0 rfl zC_M 2 (by decide) kw_592 (Or.inl rfl) rfl d_M_told_53 ?_
      refine lv_iload_n hx hb d_M_told_56 rfl (lv_at hl 1 rfl) ?_
      refine va_iald hx hb hK hP 2 1 rfl rfl (vp_in_nI hi (by decide)) d_M_told_57 ?_
      rw [nI_clamp (i31 hi)]
      refine lv_i2l (v := ((kdF kk) i : Int32).toInt64) hx hb d_M_told_58 rfl ?_
      exact zrl E hK hP hD hS d_M_told_59
    · by_cases v1 : y = 1
      · have e9 : toldA (d, n, kk, ht, tk, so, lt, sto, ni, ac, bl, t) (nI i) y = (ht i).toInt64 := by show (if _ then _ else _) = _; rw [if_pos h1, if_neg v0, if_pos v1, nI_clamp (i31 hi)]
        rw [e9]
        refine zM_of "CoastLampsModel" rfl (by decide) (Nat.le_of_ble_eq_true rfl) ?_
        intro p e s m below meth c ls E hP hK hD hS hl
        obtain ⟨hx, hb, hml, ho, hts, hr, hlk⟩ := id E
        have hl : lv_has ls 3 [(0, .ref aM), (1, .int (nI i)), (2, .int y)] := hl
        refine lv_aload_n hx hb d_M_told_0 rfl (lv_at hl 0 rfl) ?_
        refine lv_iload_n hx hb d_M_told_1 rfl (lv_at hl 1 rfl) ?_
        refine zcV (As := [.int (nI i)]) (rest := []) (ci := 11) E cy_M_isLamp kw_648 ks_4 kw_646 (c_M_isLamp l dC dI g1 g2 g3 g4 g5 g6 g7 A aM m1 m2 m3 m4 m5 m6 m7 d n (kdF kk) ht tk so lt sto ni ac bl t (nI i)) hK hP hD hS 0 rfl zC_M.1 rfl rfl hl.1 rfl (Nat.le_of_ble_eq_true rfl) ⟨Nat.le_of_ble_eq_true rfl, Nat.le_of_ble_eq_true rfl⟩ d_M_told_2 ⟨Nat.le_refl _, Nat.le_refl _⟩ (fun H locs hP hD hS => ?_)
        rw [show zb (decide (0 ≤ nI i ∧ nI i ≤ nI n - 1)) = 1 from by rw [decide_eq_true (h1)]; rfl]
        refine lv_if_ne (tgt := 12) hx hb d_M_told_5 (by decide) (fun _ => ?_) (fun h9 => absurd h9 (by decide))
        refine lv_iload_n hx hb d_M_told_12 rfl (lv_at hl 2 rfl) ?_
        refine lv_tableIn (off := 47) (tgt := 60) hx hb d_M_told_13 (by rw [v1]; decide) (by rw [v1]; decide) (by rw [v1]; decide) (by decide) ?_
        refine lv_aload_n hx hb d_M_told_60 rfl (lv_at hl 0 rfl) ?_
        refine zget (ci := 11) (fs := [.ref m1, .int (nI n), .ref m2, .ref m3, .ref m4, .ref m5, .ref m6, .long sto, .int ni, .int ac, .int bl, .ref m7, .int (nI t.2.1)]) E hK hP 0 rfl zC_M 3 (by decide) kw_593 (Or.inl rfl) rfl d_M_told_61 ?_
        refine lv_iload_n hx hb d_M_told_64 rfl (lv_at hl 1 rfl) ?_
        refine va_iald hx hb hK hP 3 2 rfl rfl (vp_in_nI hi (by decide)) d_M_told_65 ?_
        rw [nI_clamp (i31 hi)]
        refine lv_i2l (v := (ht i : Int32).toInt64) hx hb d_M_told_66 rfl ?_
        exact zrl E hK hP hD hS d_M_told_67
      · by_cases v2 : y = 2
        · have e9 : toldA (d, n, kk, ht, tk, so, lt, sto, ni, ac, bl, t) (nI i) y = (tk i).toInt64 := by show (if _ then _ else _) = _; rw [if_pos h1, if_neg v0, if_neg v1, if_pos v2, nI_clamp (i31 hi)]
          rw [e9]
          refine zM_of "CoastLampsModel" rfl (by decide) (Nat.le_of_ble_eq_true rfl) ?_
          intro p e s m below meth c ls E hP hK hD hS hl
          obtain ⟨hx, hb, hml, ho, hts, hr, hlk⟩ := id E
          have hl : lv_has ls 3 [(0, .ref aM), (1, .int (nI i)), (2, .int y)] := hl
          refine lv_aload_n hx hb d_M_told_0 rfl (lv_at hl 0 rfl) ?_
          refine lv_iload_n hx hb d_M_told_1 rfl (lv_at hl 1 rfl) ?_
          refine zcV (As := [.int (nI i)]) (rest := []) (ci := 11) E cy_M_isLamp kw_648 ks_4 kw_646 (c_M_isLamp l dC dI g1 g2 g3 g4 g5 g6 g7 A aM m1 m2 m3 m4 m5 m6 m7 d n (kdF kk) ht tk so lt sto ni ac bl t (nI i)) hK hP hD hS 0 rfl zC_M.1 rfl rfl hl.1 rfl (Nat.le_of_ble_eq_true rfl) ⟨Nat.le_of_ble_eq_true rfl, Nat.le_of_ble_eq_true rfl⟩ d_M_told_2 ⟨Nat.le_refl _, Nat.le_refl _⟩ (fun H locs hP hD hS => ?_)
          rw [show zb (decide (0 ≤ nI i ∧ nI i ≤ nI n - 1)) = 1 from by rw [decide_eq_true (h1)]; rfl]
          refine lv_if_ne (tgt := 12) hx hb d_M_told_5 (by decide) (fun _ => ?_) (fun h9 => absurd h9 (by decide))
          refine lv_iload_n hx hb d_M_told_12 rfl (lv_at hl 2 rfl) ?_
          refine lv_tableIn (off := 55) (tgt := 68) hx hb d_M_told_13 (by rw [v2]; decide) (by rw [v2]; decide) (by rw [v2]; decide) (by decide) ?_
          refine lv_aload_n hx hb d_M_told_68 rfl (lv_at hl 0 rfl) ?_
          refine zget (ci := 11) (fs := [.ref m1, .int (nI n), .ref m2, .ref m3, .ref m4, .ref m5, .ref m6, .long sto, .int ni, .int ac, .int bl, .ref m7, .int (nI t.2.1)]) E hK hP 0 rfl zC_M 4 (by decide) kw_594 (Or.inl rfl) rfl d_M_told_69 ?_
          refine lv_iload_n hx hb d_M_told_72 rfl (lv_at hl 1 rfl) ?_
          refine va_iald hx hb hK hP 4 3 rfl rfl (vp_in_nI hi (by decide)) d_M_told_73 ?_
          rw [nI_clamp (i31 hi)]
          refine lv_i2l (v := (tk i : Int32).toInt64) hx hb d_M_told_74 rfl ?_
          exact zrl E hK hP hD hS d_M_told_75
        · by_cases v3 : y = 3
          · have e9 : toldA (d, n, kk, ht, tk, so, lt, sto, ni, ac, bl, t) (nI i) y = (so i).toInt64 := by show (if _ then _ else _) = _; rw [if_pos h1, if_neg v0, if_neg v1, if_neg v2, if_pos v3, nI_clamp (i31 hi)]
            rw [e9]
            refine zM_of "CoastLampsModel" rfl (by decide) (Nat.le_of_ble_eq_true rfl) ?_
            intro p e s m below meth c ls E hP hK hD hS hl
            obtain ⟨hx, hb, hml, ho, hts, hr, hlk⟩ := id E
            have hl : lv_has ls 3 [(0, .ref aM), (1, .int (nI i)), (2, .int y)] := hl
            refine lv_aload_n hx hb d_M_told_0 rfl (lv_at hl 0 rfl) ?_
            refine lv_iload_n hx hb d_M_told_1 rfl (lv_at hl 1 rfl) ?_
            refine zcV (As := [.int (nI i)]) (rest := []) (ci := 11) E cy_M_isLamp kw_648 ks_4 kw_646 (c_M_isLamp l dC dI g1 g2 g3 g4 g5 g6 g7 A aM m1 m2 m3 m4 m5 m6 m7 d n (kdF kk) ht tk so lt sto ni ac bl t (nI i)) hK hP hD hS 0 rfl zC_M.1 rfl rfl hl.1 rfl (Nat.le_of_ble_eq_true rfl) ⟨Nat.le_of_ble_eq_true rfl, Nat.le_of_ble_eq_true rfl⟩ d_M_told_2 ⟨Nat.le_refl _, Nat.le_refl _⟩ (fun H locs hP hD hS => ?_)
            rw [show zb (decide (0 ≤ nI i ∧ nI i ≤ nI n - 1)) = 1 from by rw [decide_eq_true (h1)]; rfl]
            refine lv_if_ne (tgt := 12) hx hb d_M_told_5 (by decide) (fun _ => ?_) (fun h9 => absurd h9 (by decide))
            refine lv_iload_n hx hb d_M_told_12 rfl (lv_at hl 2 rfl) ?_
            refine lv_tableIn (off := 63) (tgt := 76) hx hb d_M_told_13 (by rw [v3]; decide) (by rw [v3]; decide) (by rw [v3]; decide) (by decide) ?_
            refine lv_aload_n hx hb d_M_told_76 rfl (lv_at hl 0 rfl) ?_
            refine zget (ci := 11) (fs := [.ref m1, .int (nI n), .ref m2, .ref m3, .ref m4, .ref m5, .ref m6, .long sto, .int ni, .int ac, .int bl, .ref m7, .int (nI t.2.1)]) E hK hP 0 rfl zC_M 5 (by decide) kw_595 (Or.inl rfl) rfl d_M_told_77 ?_
            refine lv_iload_n hx hb d_M_told_80 rfl (lv_at hl 1 rfl) ?_
            refine va_iald hx hb hK hP 5 4 rfl rfl (vp_in_nI hi (by decide)) d_M_told_81 ?_
            rw [nI_clamp (i31 hi)]
            refine lv_i2l (v := (so i : Int32).toInt64) hx hb d_M_told_82 rfl ?_
            exact zrl E hK hP hD hS d_M_told_83
          · by_cases v4 : y = 4
            · by_cases h6 : lt i = 0
              · have e9 : toldA (d, n, kk, ht, tk, so, lt, sto, ni, ac, bl, t) (nI i) y = 0 := by show (if _ then _ else _) = _; rw [if_pos h1, if_neg v0, if_neg v1, if_neg v2, if_neg v3, if_pos v4, nI_clamp (i31 hi), if_pos h6]
                rw [e9]
                refine zM_of "CoastLampsModel" rfl (by decide) (Nat.le_of_ble_eq_true rfl) ?_
                intro p e s m below meth c ls E hP hK hD hS hl
                obtain ⟨hx, hb, hml, ho, hts, hr, hlk⟩ := id E
                have hl : lv_has ls 3 [(0, .ref aM), (1, .int (nI i)), (2, .int y)] := hl
                refine lv_aload_n hx hb d_M_told_0 rfl (lv_at hl 0 rfl) ?_
                refine lv_iload_n hx hb d_M_told_1 rfl (lv_at hl 1 rfl) ?_
                refine zcV (As := [.int (nI i)]) (rest := []) (ci := 11) E cy_M_isLamp kw_648 ks_4 kw_646 (c_M_isLamp l dC dI g1 g2 g3 g4 g5 g6 g7 A aM m1 m2 m3 m4 m5 m6 m7 d n (kdF kk) ht tk so lt sto ni ac bl t (nI i)) hK hP hD hS 0 rfl zC_M.1 rfl rfl hl.1 rfl (Nat.le_of_ble_eq_true rfl) ⟨Nat.le_of_ble_eq_true rfl, Nat.le_of_ble_eq_true rfl⟩ d_M_told_2 ⟨Nat.le_refl _, Nat.le_refl _⟩ (fun H locs hP hD hS => ?_)
                rw [show zb (decide (0 ≤ nI i ∧ nI i ≤ nI n - 1)) = 1 from by rw [decide_eq_true (h1)]; rfl]
                refine lv_if_ne (tgt := 12) hx hb d_M_told_5 (by decide) (fun _ => ?_) (fun h9 => absurd h9 (by decide))
                refine lv_iload_n hx hb d_M_told_12 rfl (lv_at hl 2 rfl) ?_
                refine lv_tableIn (off := 71) (tgt := 84) hx hb d_M_told_13 (by rw [v4]; decide) (by rw [v4]; decide) (by rw [v4]; decide) (by decide) ?_
                refine lv_aload_n hx hb d_M_told_84 rfl (lv_at hl 0 rfl) ?_
                refine zget (ci := 11) (fs := [.ref m1, .int (nI n), .ref m2, .ref m3, .ref m4, .ref m5, .ref m6, .long sto, .int ni, .int ac, .int bl, .ref m7, .int (nI t.2.1)]) E hK hP 0 rfl zC_M 6 (by decide) kw_596 (Or.inl rfl) rfl d_M_told_85 ?_
                refine lv_iload_n hx hb d_M_told_88 rfl (lv_at hl 1 rfl) ?_
                refine va_zald hx hb hK hP 6 5 rfl rfl (vp_in_nI hi (by decide)) d_M_told_89 ?_
                rw [nI_clamp (i31 hi)]
                refine lv_if_eq (tgt := 97) hx hb d_M_told_90 (by decide) (fun _ => ?_) (fun h9 => absurd (h6) h9)
                refine lv_lconst (v := 0) hx hb d_M_told_97 (by decide) ?_
                exact zrl E hK hP hD hS d_M_told_98
              · have e9 : toldA (d, n, kk, ht, tk, so, lt, sto, ni, ac, bl, t) (nI i) y = 1 := by show (if _ then _ else _) = _; rw [if_pos h1, if_neg v0, if_neg v1, if_neg v2, if_neg v3, if_pos v4, nI_clamp (i31 hi), if_neg h6]
                rw [e9]
                refine zM_of "CoastLampsModel" rfl (by decide) (Nat.le_of_ble_eq_true rfl) ?_
                intro p e s m below meth c ls E hP hK hD hS hl
                obtain ⟨hx, hb, hml, ho, hts, hr, hlk⟩ := id E
                have hl : lv_has ls 3 [(0, .ref aM), (1, .int (nI i)), (2, .int y)] := hl
                refine lv_aload_n hx hb d_M_told_0 rfl (lv_at hl 0 rfl) ?_
                refine lv_iload_n hx hb d_M_told_1 rfl (lv_at hl 1 rfl) ?_
                refine zcV (As := [.int (nI i)]) (rest := []) (ci := 11) E cy_M_isLamp kw_648 ks_4 kw_646 (c_M_isLamp l dC dI g1 g2 g3 g4 g5 g6 g7 A aM m1 m2 m3 m4 m5 m6 m7 d n (kdF kk) ht tk so lt sto ni ac bl t (nI i)) hK hP hD hS 0 rfl zC_M.1 rfl rfl hl.1 rfl (Nat.le_of_ble_eq_true rfl) ⟨Nat.le_of_ble_eq_true rfl, Nat.le_of_ble_eq_true rfl⟩ d_M_told_2 ⟨Nat.le_refl _, Nat.le_refl _⟩ (fun H locs hP hD hS => ?_)
                rw [show zb (decide (0 ≤ nI i ∧ nI i ≤ nI n - 1)) = 1 from by rw [decide_eq_true (h1)]; rfl]
                refine lv_if_ne (tgt := 12) hx hb d_M_told_5 (by decide) (fun _ => ?_) (fun h9 => absurd h9 (by decide))
                refine lv_iload_n hx hb d_M_told_12 rfl (lv_at hl 2 rfl) ?_
                refine lv_tableIn (off := 71) (tgt := 84) hx hb d_M_told_13 (by rw [v4]; decide) (by rw [v4]; decide) (by rw [v4]; decide) (by decide) ?_
                refine lv_aload_n hx hb d_M_told_84 rfl (lv_at hl 0 rfl) ?_
                refine zget (ci := 11) (fs := [.ref m1, .int (nI n), .ref m2, .ref m3, .ref m4, .ref m5, .ref m6, .long sto, .int ni, .int ac, .int bl, .ref m7, .int (nI t.2.1)]) E hK hP 0 rfl zC_M 6 (by decide) kw_596 (Or.inl rfl) rfl d_M_told_85 ?_
                refine lv_iload_n hx hb d_M_told_88 rfl (lv_at hl 1 rfl) ?_
                refine va_zald hx hb hK hP 6 5 rfl rfl (vp_in_nI hi (by decide)) d_M_told_89 ?_
                rw [nI_clamp (i31 hi)]
                refine lv_if_eq (tgt := 97) hx hb d_M_told_90 (by decide) (fun h9 => absurd h9 (h6)) (fun _ => ?_)
                refine lv_lconst (v := 1) hx hb d_M_told_93 (by decide) ?_
                refine lv_goto (tgt := 98) hx hb d_M_told_94 (by decide) ?_
                exact zrl E hK hP hD hS d_M_told_98
            · by_cases v5 : y = 5
              · cases hh : hornedK (kk i)
                · have e9 : toldA (d, n, kk, ht, tk, so, lt, sto, ni, ac, bl, t) (nI i) y = 0 := by show (if _ then _ else _) = _; rw [if_pos h1, if_neg v0, if_neg v1, if_neg v2, if_neg v3, if_neg v4, if_pos v5, nI_clamp (i31 hi), if_neg (by rw [hh]; decide)]
                  rw [e9]
                  refine zM_of "CoastLampsModel" rfl (by decide) (Nat.le_of_ble_eq_true rfl) ?_
                  intro p e s m below meth c ls E hP hK hD hS hl
                  obtain ⟨hx, hb, hml, ho, hts, hr, hlk⟩ := id E
                  have hl : lv_has ls 3 [(0, .ref aM), (1, .int (nI i)), (2, .int y)] := hl
                  refine lv_aload_n hx hb d_M_told_0 rfl (lv_at hl 0 rfl) ?_
                  refine lv_iload_n hx hb d_M_told_1 rfl (lv_at hl 1 rfl) ?_
                  refine zcV (As := [.int (nI i)]) (rest := []) (ci := 11) E cy_M_isLamp kw_648 ks_4 kw_646 (c_M_isLamp l dC dI g1 g2 g3 g4 g5 g6 g7 A aM m1 m2 m3 m4 m5 m6 m7 d n (kdF kk) ht tk so lt sto ni ac bl t (nI i)) hK hP hD hS 0 rfl zC_M.1 rfl rfl hl.1 rfl (Nat.le_of_ble_eq_true rfl) ⟨Nat.le_of_ble_eq_true rfl, Nat.le_of_ble_eq_true rfl⟩ d_M_told_2 ⟨Nat.le_refl _, Nat.le_refl _⟩ (fun H locs hP hD hS => ?_)
                  rw [show zb (decide (0 ≤ nI i ∧ nI i ≤ nI n - 1)) = 1 from by rw [decide_eq_true (h1)]; rfl]
                  refine lv_if_ne (tgt := 12) hx hb d_M_told_5 (by decide) (fun _ => ?_) (fun h9 => absurd h9 (by decide))
                  refine lv_iload_n hx hb d_M_told_12 rfl (lv_at hl 2 rfl) ?_
                  refine lv_tableIn (off := 86) (tgt := 99) hx hb d_M_told_13 (by rw [v5]; decide) (by rw [v5]; decide) (by rw [v5]; decide) (by decide) ?_
                  refine lv_aload_n hx hb d_M_told_99 rfl (lv_at hl 0 rfl) ?_
                  refine lv_iload_n hx hb d_M_told_100 rfl (lv_at hl 1 rfl) ?_
                  refine zcV (As := [.int (nI i)]) (rest := []) (ci := 11) E cy_M_isHorned kw_657 ks_6 kw_655 (c_M_isHorned l dC dI g1 g2 g3 g4 g5 g6 g7 A aM m1 m2 m3 m4 m5 m6 m7 d n (kdF kk) ht tk so lt sto ni ac bl t i hi (kk i) (hkk i hi0) rfl) hK hP hD hS 0 rfl zC_M.1 rfl rfl hl.1 rfl (Nat.le_of_ble_eq_true rfl) ⟨Nat.le_of_ble_eq_true rfl, Nat.le_of_ble_eq_true rfl⟩ d_M_told_101 ⟨Nat.le_refl _, Nat.le_refl _⟩ (fun H locs hP hD hS => ?_)
                  rw [hh, show zb false = 0 from rfl]
                  refine lv_if_eq (tgt := 111) hx hb d_M_told_104 (by decide) (fun _ => ?_) (fun h9 => absurd (rfl) h9)
                  refine lv_lconst (v := 0) hx hb d_M_told_111 (by decide) ?_
                  exact zrl E hK hP hD hS d_M_told_112
                · have e9 : toldA (d, n, kk, ht, tk, so, lt, sto, ni, ac, bl, t) (nI i) y = 1 := by show (if _ then _ else _) = _; rw [if_pos h1, if_neg v0, if_neg v1, if_neg v2, if_neg v3, if_neg v4, if_pos v5, nI_clamp (i31 hi), if_pos hh]
                  rw [e9]
                  refine zM_of "CoastLampsModel" rfl (by decide) (Nat.le_of_ble_eq_true rfl) ?_
                  intro p e s m below meth c ls E hP hK hD hS hl
                  obtain ⟨hx, hb, hml, ho, hts, hr, hlk⟩ := id E
                  have hl : lv_has ls 3 [(0, .ref aM), (1, .int (nI i)), (2, .int y)] := hl
                  refine lv_aload_n hx hb d_M_told_0 rfl (lv_at hl 0 rfl) ?_
                  refine lv_iload_n hx hb d_M_told_1 rfl (lv_at hl 1 rfl) ?_
                  refine zcV (As := [.int (nI i)]) (rest := []) (ci := 11) E cy_M_isLamp kw_648 ks_4 kw_646 (c_M_isLamp l dC dI g1 g2 g3 g4 g5 g6 g7 A aM m1 m2 m3 m4 m5 m6 m7 d n (kdF kk) ht tk so lt sto ni ac bl t (nI i)) hK hP hD hS 0 rfl zC_M.1 rfl rfl hl.1 rfl (Nat.le_of_ble_eq_true rfl) ⟨Nat.le_of_ble_eq_true rfl, Nat.le_of_ble_eq_true rfl⟩ d_M_told_2 ⟨Nat.le_refl _, Nat.le_refl _⟩ (fun H locs hP hD hS => ?_)
                  rw [show zb (decide (0 ≤ nI i ∧ nI i ≤ nI n - 1)) = 1 from by rw [decide_eq_true (h1)]; rfl]
                  refine lv_if_ne (tgt := 12) hx hb d_M_told_5 (by decide) (fun _ => ?_) (fun h9 => absurd h9 (by decide))
                  refine lv_iload_n hx hb d_M_told_12 rfl (lv_at hl 2 rfl) ?_
                  refine lv_tableIn (off := 86) (tgt := 99) hx hb d_M_told_13 (by rw [v5]; decide) (by rw [v5]; decide) (by rw [v5]; decide) (by decide) ?_
                  refine lv_aload_n hx hb d_M_told_99 rfl (lv_at hl 0 rfl) ?_
                  refine lv_iload_n hx hb d_M_told_100 rfl (lv_at hl 1 rfl) ?_
                  refine zcV (As := [.int (nI i)]) (rest := []) (ci := 11) E cy_M_isHorned kw_657 ks_6 kw_655 (c_M_isHorned l dC dI g1 g2 g3 g4 g5 g6 g7 A aM m1 m2 m3 m4 m5 m6 m7 d n (kdF kk) ht tk so lt sto ni ac bl t i hi (kk i) (hkk i hi0) rfl) hK hP hD hS 0 rfl zC_M.1 rfl rfl hl.1 rfl (Nat.le_of_ble_eq_true rfl) ⟨Nat.le_of_ble_eq_true rfl, Nat.le_of_ble_eq_true rfl⟩ d_M_told_101 ⟨Nat.le_refl _, Nat.le_refl _⟩ (fun H locs hP hD hS => ?_)
                  rw [hh, show zb true = 1 from rfl]
                  refine lv_if_eq (tgt := 111) hx hb d_M_told_104 (by decide) (fun h9 => absurd h9 (by decide)) (fun _ => ?_)
                  refine lv_lconst (v := 1) hx hb d_M_told_107 (by decide) ?_
                  refine lv_goto (tgt := 112) hx hb d_M_told_108 (by decide) ?_
                  exact zrl E hK hP hD hS d_M_told_112
              · have e9 : toldA (d, n, kk, ht, tk, so, lt, sto, ni, ac, bl, t) (nI i) y = zNONE := by show (if _ then _ else _) = _; rw [if_pos h1, if_neg v0, if_neg v1, if_neg v2, if_neg v3, if_neg v4, if_neg v5]
                rw [e9]
                refine zM_of "CoastLampsModel" rfl (by decide) (Nat.le_of_ble_eq_true rfl) ?_
                intro p e s m below meth c ls E hP hK hD hS hl
                obtain ⟨hx, hb, hml, ho, hts, hr, hlk⟩ := id E
                have hl : lv_has ls 3 [(0, .ref aM), (1, .int (nI i)), (2, .int y)] := hl
                refine lv_aload_n hx hb d_M_told_0 rfl (lv_at hl 0 rfl) ?_
                refine lv_iload_n hx hb d_M_told_1 rfl (lv_at hl 1 rfl) ?_
                refine zcV (As := [.int (nI i)]) (rest := []) (ci := 11) E cy_M_isLamp kw_648 ks_4 kw_646 (c_M_isLamp l dC dI g1 g2 g3 g4 g5 g6 g7 A aM m1 m2 m3 m4 m5 m6 m7 d n (kdF kk) ht tk so lt sto ni ac bl t (nI i)) hK hP hD hS 0 rfl zC_M.1 rfl rfl hl.1 rfl (Nat.le_of_ble_eq_true rfl) ⟨Nat.le_of_ble_eq_true rfl, Nat.le_of_ble_eq_true rfl⟩ d_M_told_2 ⟨Nat.le_refl _, Nat.le_refl _⟩ (fun H locs hP hD hS => ?_)
                rw [show zb (decide (0 ≤ nI i ∧ nI i ≤ nI n - 1)) = 1 from by rw [decide_eq_true (h1)]; rfl]
                refine lv_if_ne (tgt := 12) hx hb d_M_told_5 (by decide) (fun _ => ?_) (fun h9 => absurd h9 (by decide))
                refine lv_iload_n hx hb d_M_told_12 rfl (lv_at hl 2 rfl) ?_
                refine lv_tableOut (tgt := 113) hx hb d_M_told_13 (sw_out5 v0 v1 v2 v3 v4 v5) (by decide) ?_
                refine lv_ldc2 hx hb ho (hts _ kw_650) d_M_told_113 ?_
                exact zrl E hK hP hD hS d_M_told_116
  · have e9 : toldA (d, n, kk, ht, tk, so, lt, sto, ni, ac, bl, t) x y = zNONE := by show (if _ then _ else _) = _; rw [if_neg h1]
    rw [e9]
    refine zM_of "CoastLampsModel" rfl (by decide) (Nat.le_of_ble_eq_true rfl) ?_
    intro p e s m below meth c ls E hP hK hD hS hl
    obtain ⟨hx, hb, hml, ho, hts, hr, hlk⟩ := id E
    have hl : lv_has ls 3 [(0, .ref aM), (1, .int x), (2, .int y)] := hl
    refine lv_aload_n hx hb d_M_told_0 rfl (lv_at hl 0 rfl) ?_
    refine lv_iload_n hx hb d_M_told_1 rfl (lv_at hl 1 rfl) ?_
    refine zcV (As := [.int x]) (rest := []) (ci := 11) E cy_M_isLamp kw_648 ks_4 kw_646 (c_M_isLamp l dC dI g1 g2 g3 g4 g5 g6 g7 A aM m1 m2 m3 m4 m5 m6 m7 d n (kdF kk) ht tk so lt sto ni ac bl t x) hK hP hD hS 0 rfl zC_M.1 rfl rfl hl.1 rfl (Nat.le_of_ble_eq_true rfl) ⟨Nat.le_of_ble_eq_true rfl, Nat.le_of_ble_eq_true rfl⟩ d_M_told_2 ⟨Nat.le_refl _, Nat.le_refl _⟩ (fun H locs hP hD hS => ?_)
    rw [show zb (decide (0 ≤ x ∧ x ≤ nI n - 1)) = 0 from by rw [decide_eq_false (h1)]; rfl]
    refine lv_if_ne (tgt := 12) hx hb d_M_told_5 (by decide) (fun h9 => absurd (rfl) h9) (fun _ => ?_)
    refine lv_ldc2 hx hb ho (hts _ kw_650) d_M_told_8 ?_
    exact zrl E hK hP hD hS d_M_told_11
