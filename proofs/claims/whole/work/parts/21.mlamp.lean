set_option maxHeartbeats 1000000 in
set_option maxRecDepth 100000 in
theorem c_M_in (l : Launch) (dC : Nat → ClassId) (dI : Nat → Nat → Nat) (tys : List (ClassId × FieldType)) (A : Nat → Prop) (w : va_W) (x y z : Int32) : zM l y_M_in b_M_in 3 (some FieldType.boolean) 0 0 [.int x, .int y, .int z] (dC, dI) tys A w w (some (.int (zb (decide (y ≤ x ∧ x ≤ z))))) := by
  by_cases h1 : y ≤ x
  · by_cases h2 : x ≤ z
    · rw [show zb (decide (y ≤ x ∧ x ≤ z)) = 1 from by rw [decide_eq_true (⟨h1, h2⟩)]; rfl]
      refine zM_of "CoastLampsModel" rfl (by decide) (Nat.le_of_ble_eq_true rfl) ?_
      intro p e s m below meth c ls E hP hK hD hS hl
      obtain ⟨hx, hb, hml, ho, hts, hr, hlk⟩ := id E
      have hl : lv_has ls 3 [(0, .int x), (1, .int y), (2, .int z)] := hl
      refine lv_iload_n hx hb d_M_in_0 rfl (lv_at hl 0 rfl) ?_
      refine lv_iload_n hx hb d_M_in_1 rfl (lv_at hl 1 rfl) ?_
      refine lv_icmp_lt (tgt := 14) hx hb d_M_in_2 (by decide) (fun h9 => absurd h9 (Int32.not_lt.mpr h1)) (fun _ => ?_)
      refine lv_iload_n hx hb d_M_in_5 rfl (lv_at hl 0 rfl) ?_
      refine lv_iload_n hx hb d_M_in_6 rfl (lv_at hl 2 rfl) ?_
      refine lv_icmp_gt (tgt := 14) hx hb d_M_in_7 (by decide) (fun h9 => absurd h9 (Int32.not_lt.mpr h2)) (fun _ => ?_)
      refine lv_iconst (v := 1) hx hb d_M_in_10 (by decide) ?_
      refine lv_goto (tgt := 15) hx hb d_M_in_11 (by decide) ?_
      exact zrz E hK hP hD hS rfl d_M_in_15
    · rw [show zb (decide (y ≤ x ∧ x ≤ z)) = 0 from by rw [decide_eq_false (fun h => h2 h.2)]; rfl]
      refine zM_of "CoastLampsModel" rfl (by decide) (Nat.le_of_ble_eq_true rfl) ?_
      intro p e s m below meth c ls E hP hK hD hS hl
      obtain ⟨hx, hb, hml, ho, hts, hr, hlk⟩ := id E
      have hl : lv_has ls 3 [(0, .int x), (1, .int y), (2, .int z)] := hl
      refine lv_iload_n hx hb d_M_in_0 rfl (lv_at hl 0 rfl) ?_
      refine lv_iload_n hx hb d_M_in_1 rfl (lv_at hl 1 rfl) ?_
      refine lv_icmp_lt (tgt := 14) hx hb d_M_in_2 (by decide) (fun h9 => absurd h9 (Int32.not_lt.mpr h1)) (fun _ => ?_)
      refine lv_iload_n hx hb d_M_in_5 rfl (lv_at hl 0 rfl) ?_
      refine lv_iload_n hx hb d_M_in_6 rfl (lv_at hl 2 rfl) ?_
      refine lv_icmp_gt (tgt := 14) hx hb d_M_in_7 (by decide) (fun _ => ?_) (fun h9 => absurd (Int32.not_le.mp h2) h9)
      refine lv_iconst (v := 0) hx hb d_M_in_14 (by decide) ?_
      exact zrz E hK hP hD hS rfl d_M_in_15
  · rw [show zb (decide (y ≤ x ∧ x ≤ z)) = 0 from by rw [decide_eq_false (fun h => h1 h.1)]; rfl]
    refine zM_of "CoastLampsModel" rfl (by decide) (Nat.le_of_ble_eq_true rfl) ?_
    intro p e s m below meth c ls E hP hK hD hS hl
    obtain ⟨hx, hb, hml, ho, hts, hr, hlk⟩ := id E
    have hl : lv_has ls 3 [(0, .int x), (1, .int y), (2, .int z)] := hl
    refine lv_iload_n hx hb d_M_in_0 rfl (lv_at hl 0 rfl) ?_
    refine lv_iload_n hx hb d_M_in_1 rfl (lv_at hl 1 rfl) ?_
    refine lv_icmp_lt (tgt := 14) hx hb d_M_in_2 (by decide) (fun _ => ?_) (fun h9 => absurd (Int32.not_le.mp h1) h9)
    refine lv_iconst (v := 0) hx hb d_M_in_14 (by decide) ?_
    exact zrz E hK hP hD hS rfl d_M_in_15
set_option maxHeartbeats 1000000 in
set_option maxRecDepth 100000 in
theorem c_M_begins (l : Launch) (dC : Nat → ClassId) (dI : Nat → Nat → Nat) (g1 g2 g3 g4 g5 g6 g7 : ClassId) (A : Nat → Prop) (aM m1 m2 m3 m4 m5 m6 m7 : Nat) (d : Nat → Int32) (n : Nat) (kd ht tk so lt : Nat → Int32) (sto : Int64) (ni ac bl : Int32) (t : zT) (x : Int32) : zM l y_M_begins b_M_begins 2 none 0 0 [.ref aM, .int x] (dC, dI) (t7 g1 g2 g3 g4 g5 g6 g7) A (wm g1 g2 g3 g4 g5 g6 g7 aM m1 m2 m3 m4 m5 m6 m7 d n kd ht tk so lt sto ni ac bl t) (wm g1 g2 g3 g4 g5 g6 g7 aM m1 m2 m3 m4 m5 m6 m7 d n kd ht tk so lt sto ni ac bl (tb x t)) none := by
  by_cases h1 : t.2.1 < 1000
  · have e9 : tb x t = (upd t.1 t.2.1 x, ⟨t.2.1 + 1, h1⟩) := by unfold tb; rw [dif_pos h1]
    rw [e9]
    refine zM_of "CoastLampsModel" rfl (by decide) (Nat.le_of_ble_eq_true rfl) ?_
    intro p e s m below meth c ls E hP hK hD hS hl
    obtain ⟨hx, hb, hml, ho, hts, hr, hlk⟩ := id E
    have hl : lv_has ls 2 [(0, .ref aM), (1, .int x)] := hl
    refine lv_aload_n hx hb d_M_begins_0 rfl (lv_at hl 0 rfl) ?_
    refine zget (ci := 11) (fs := [.ref m1, .int (nI n), .ref m2, .ref m3, .ref m4, .ref m5, .ref m6, .long sto, .int ni, .int ac, .int bl, .ref m7, .int (nI t.2.1)]) E hK hP 0 rfl zC_M 12 (by decide) kw_602 (Or.inl rfl) rfl d_M_begins_1 ?_
    refine lv_sipush (v := 1000) hx hb d_M_begins_4 (by decide) ?_
    rw [show (1000 : Int32) = nI 1000 from by decide]
    refine lv_icmp_ge (tgt := 30) hx hb d_M_begins_7 (by decide) (fun h9 => absurd h9 (nI_ge h1 (by decide))) (fun _ => ?_)
    refine lv_aload_n hx hb d_M_begins_10 rfl (lv_at hl 0 rfl) ?_
    refine zget (ci := 11) (fs := [.ref m1, .int (nI n), .ref m2, .ref m3, .ref m4, .ref m5, .ref m6, .long sto, .int ni, .int ac, .int bl, .ref m7, .int (nI t.2.1)]) E hK hP 0 rfl zC_M 11 (by decide) kw_601 (Or.inl rfl) rfl d_M_begins_11 ?_
    refine lv_aload_n hx hb d_M_begins_14 rfl (lv_at hl 0 rfl) ?_
    refine zget (ci := 11) (fs := [.ref m1, .int (nI n), .ref m2, .ref m3, .ref m4, .ref m5, .ref m6, .long sto, .int ni, .int ac, .int bl, .ref m7, .int (nI t.2.1)]) E hK hP 0 rfl zC_M 12 (by decide) kw_602 (Or.inl rfl) rfl d_M_begins_15 ?_
    refine lv_iload_n hx hb d_M_begins_18 rfl (lv_at hl 1 rfl) ?_
    refine va_iast hx hb hK hP hD hS 7 6 rfl rfl (vp_in_nI h1 (by decide)) d_M_begins_19 (fun H locs hP hD hS => ?_)
    rw [nI_clamp (nI_w t)] at hP hD
    have hP : va_P (dC, dI) classes ([(aM, .inr (11, [.ref m1, .int (nI n), .ref m2, .ref m3, .ref m4, .ref m5, .ref m6, .long sto, .int ni, .int ac, .int bl, .ref m7, .int (nI t.2.1)])), (m1, .inl (g1, 8, .inl d)), (m2, .inl (g2, 60, .inl kd)), (m3, .inl (g3, 60, .inl ht)), (m4, .inl (g4, 60, .inl tk)), (m5, .inl (g5, 60, .inl so)), (m6, .inl (g6, 60, .inl lt)), (m7, .inl (g7, 1000, .inl (upd t.1 t.2.1 x)))]) H := hP
    have hD : va_D A ([(aM, .inr (11, [.ref m1, .int (nI n), .ref m2, .ref m3, .ref m4, .ref m5, .ref m6, .long sto, .int ni, .int ac, .int bl, .ref m7, .int (nI t.2.1)])), (m1, .inl (g1, 8, .inl d)), (m2, .inl (g2, 60, .inl kd)), (m3, .inl (g3, 60, .inl ht)), (m4, .inl (g4, 60, .inl tk)), (m5, .inl (g5, 60, .inl so)), (m6, .inl (g6, 60, .inl lt)), (m7, .inl (g7, 1000, .inl (upd t.1 t.2.1 x)))]) := hD
    refine lv_aload_n hx hb d_M_begins_20 rfl (lv_at hl 0 rfl) ?_
    refine lv_dup hx hb d_M_begins_21 rfl ?_
    refine zget (ci := 11) (fs := [.ref m1, .int (nI n), .ref m2, .ref m3, .ref m4, .ref m5, .ref m6, .long sto, .int ni, .int ac, .int bl, .ref m7, .int (nI t.2.1)]) E hK hP 0 rfl zC_M 12 (by decide) kw_602 (Or.inl rfl) rfl d_M_begins_22 ?_
    refine lv_iconst (v := 1) hx hb d_M_begins_25 (by decide) ?_
    refine lv_iadd hx hb d_M_begins_26 ?_
    rw [nI_1]
    refine zput (ci := 11) (fs := [.ref m1, .int (nI n), .ref m2, .ref m3, .ref m4, .ref m5, .ref m6, .long sto, .int ni, .int ac, .int bl, .ref m7, .int (nI t.2.1)]) (ty := .int) (v := .int (nI (t.2.1 + 1))) (ws2 := [(aM, .inr (11, [.ref m1, .int (nI n), .ref m2, .ref m3, .ref m4, .ref m5, .ref m6, .long sto, .int ni, .int ac, .int bl, .ref m7, .int (nI (t.2.1 + 1))])), (m1, .inl (g1, 8, .inl d)), (m2, .inl (g2, 60, .inl kd)), (m3, .inl (g3, 60, .inl ht)), (m4, .inl (g4, 60, .inl tk)), (m5, .inl (g5, 60, .inl so)), (m6, .inl (g6, 60, .inl lt)), (m7, .inl (g7, 1000, .inl (upd t.1 t.2.1 x)))]) E hK hP hD hS 0 rfl zC_M t_M o_M n_M 12 (by decide) kw_602 (Or.inl rfl) rfl rfl rfl rfl (Nat.le_of_ble_eq_true rfl) d_M_begins_27 (rfl) (fun H locs hP hD hS => ?_)
    exact zrv E hK hP hD hS d_M_begins_30
  · have e9 : tb x t = t := by unfold tb; rw [dif_neg h1]
    rw [e9]
    refine zM_of "CoastLampsModel" rfl (by decide) (Nat.le_of_ble_eq_true rfl) ?_
    intro p e s m below meth c ls E hP hK hD hS hl
    obtain ⟨hx, hb, hml, ho, hts, hr, hlk⟩ := id E
    have hl : lv_has ls 2 [(0, .ref aM), (1, .int x)] := hl
    refine lv_aload_n hx hb d_M_begins_0 rfl (lv_at hl 0 rfl) ?_
    refine zget (ci := 11) (fs := [.ref m1, .int (nI n), .ref m2, .ref m3, .ref m4, .ref m5, .ref m6, .long sto, .int ni, .int ac, .int bl, .ref m7, .int (nI t.2.1)]) E hK hP 0 rfl zC_M 12 (by decide) kw_602 (Or.inl rfl) rfl d_M_begins_1 ?_
    refine lv_sipush (v := 1000) hx hb d_M_begins_4 (by decide) ?_
    rw [show (1000 : Int32) = nI 1000 from by decide]
    refine lv_icmp_ge (tgt := 30) hx hb d_M_begins_7 (by decide) (fun _ => ?_) (fun h9 => absurd (nI_le (by omega) (nI_w t)) h9)
    exact zrv E hK hP hD hS d_M_begins_30
set_option maxHeartbeats 1000000 in
set_option maxRecDepth 100000 in
theorem c_M_act (l : Launch) (dC : Nat → ClassId) (dI : Nat → Nat → Nat) (g1 g2 g3 g4 g5 g6 g7 : ClassId) (A : Nat → Prop) (aM m1 m2 m3 m4 m5 m6 m7 : Nat) (d : Nat → Int32) (n : Nat) (kd ht tk so lt : Nat → Int32) (sto : Int64) (ni ac bl : Int32) (t : zT) : zM l y_M_act b_M_act 1 none 0 0 [.ref aM] (dC, dI) (t7 g1 g2 g3 g4 g5 g6 g7) A (wm g1 g2 g3 g4 g5 g6 g7 aM m1 m2 m3 m4 m5 m6 m7 d n kd ht tk so lt sto ni ac bl t) (wm g1 g2 g3 g4 g5 g6 g7 aM m1 m2 m3 m4 m5 m6 m7 d n kd ht tk so lt sto ni (ac + 1) bl (t.1, ⟨0, by decide⟩)) none := by
  refine zM_of "CoastLampsModel" rfl (by decide) (Nat.le_of_ble_eq_true rfl) ?_
  intro p e s m below meth c ls E hP hK hD hS hl
  obtain ⟨hx, hb, hml, ho, hts, hr, hlk⟩ := id E
  have hl : lv_has ls 1 [(0, .ref aM)] := hl
  refine lv_aload_n hx hb d_M_act_0 rfl (lv_at hl 0 rfl) ?_
  refine lv_iconst (v := 0) hx hb d_M_act_1 (by decide) ?_
  rw [show (0 : Int32) = nI 0 from nI_0.symm]
  refine zput (ci := 11) (fs := [.ref m1, .int (nI n), .ref m2, .ref m3, .ref m4, .ref m5, .ref m6, .long sto, .int ni, .int ac, .int bl, .ref m7, .int (nI t.2.1)]) (ty := .int) (v := .int (nI 0)) (ws2 := [(aM, .inr (11, [.ref m1, .int (nI n), .ref m2, .ref m3, .ref m4, .ref m5, .ref m6, .long sto, .int ni, .int ac, .int bl, .ref m7, .int (nI 0)])), (m1, .inl (g1, 8, .inl d)), (m2, .inl (g2, 60, .inl kd)), (m3, .inl (g3, 60, .inl ht)), (m4, .inl (g4, 60, .inl tk)), (m5, .inl (g5, 60, .inl so)), (m6, .inl (g6, 60, .inl lt)), (m7, .inl (g7, 1000, .inl (t.1)))]) E hK hP hD hS 0 rfl zC_M t_M o_M n_M 12 (by decide) kw_602 (Or.inl rfl) rfl rfl rfl rfl (Nat.le_of_ble_eq_true rfl) d_M_act_2 (rfl) (fun H locs hP hD hS => ?_)
  refine lv_aload_n hx hb d_M_act_5 rfl (lv_at hl 0 rfl) ?_
  refine lv_dup hx hb d_M_act_6 rfl ?_
  refine zget (ci := 11) (fs := [.ref m1, .int (nI n), .ref m2, .ref m3, .ref m4, .ref m5, .ref m6, .long sto, .int ni, .int ac, .int bl, .ref m7, .int (nI 0)]) E hK hP 0 rfl zC_M 9 (by decide) kw_599 (Or.inl rfl) rfl d_M_act_7 ?_
  refine lv_iconst (v := 1) hx hb d_M_act_10 (by decide) ?_
  refine lv_iadd hx hb d_M_act_11 ?_
  refine zput (ci := 11) (fs := [.ref m1, .int (nI n), .ref m2, .ref m3, .ref m4, .ref m5, .ref m6, .long sto, .int ni, .int ac, .int bl, .ref m7, .int (nI 0)]) (ty := .int) (v := .int (ac + 1)) (ws2 := [(aM, .inr (11, [.ref m1, .int (nI n), .ref m2, .ref m3, .ref m4, .ref m5, .ref m6, .long sto, .int ni, .int (ac + 1), .int bl, .ref m7, .int (nI 0)])), (m1, .inl (g1, 8, .inl d)), (m2, .inl (g2, 60, .inl kd)), (m3, .inl (g3, 60, .inl ht)), (m4, .inl (g4, 60, .inl tk)), (m5, .inl (g5, 60, .inl so)), (m6, .inl (g6, 60, .inl lt)), (m7, .inl (g7, 1000, .inl (t.1)))]) E hK hP hD hS 0 rfl zC_M t_M o_M n_M 9 (by decide) kw_599 (Or.inl rfl) rfl rfl rfl rfl (Nat.le_of_ble_eq_true rfl) d_M_act_12 (rfl) (fun H locs hP hD hS => ?_)
  exact zrv E hK hP hD hS d_M_act_15
set_option maxHeartbeats 1000000 in
set_option maxRecDepth 100000 in
theorem c_M_burnLamp (l : Launch) (dC : Nat → ClassId) (dI : Nat → Nat → Nat) (g1 g2 g3 g4 g5 g6 g7 : ClassId) (A : Nat → Prop) (aM m1 m2 m3 m4 m5 m6 m7 : Nat) (d : Nat → Int32) (n : Nat) (kd ht tk so lt : Nat → Int32) (sto : Int64) (ni ac bl : Int32) (i : Nat) (hi : i < 60) (σ : zS) (x : Int32) : zM l y_M_burnLamp b_M_burnLamp 3 (some (FieldType.int)) 1 21 [.ref aM, .int (nI i), .int x] (dC, dI) (t7 g1 g2 g3 g4 g5 g6 g7) A (wm g1 g2 g3 g4 g5 g6 g7 aM m1 m2 m3 m4 m5 m6 m7 d n kd ht tk (upd so i σ.1) lt sto ni ac bl σ.2) (wm g1 g2 g3 g4 g5 g6 g7 aM m1 m2 m3 m4 m5 m6 m7 d n kd ht tk (upd so i (bLamp d x σ).2.1) lt sto ni ac bl (bLamp d x σ).2.2) (some (.int (bLamp d x σ).1)) := by
  refine zM_of "CoastLampsModel" rfl (by decide) (Nat.le_of_ble_eq_true rfl) ?_
  intro p e s m below meth c ls E hP hK hD hS hl
  obtain ⟨hx, hb, hml, ho, hts, hr, hlk⟩ := id E
  have hl : lv_has ls 3 [(0, .ref aM), (1, .int (nI i)), (2, .int x)] := hl
  refine lv_aload_n hx hb d_M_burnLamp_0 rfl (lv_at hl 0 rfl) ?_
  refine lv_iconst (v := 0) hx hb d_M_burnLamp_1 (by decide) ?_
  refine zcV (As := [.int 0]) (rest := []) (ci := 11) E cy_M_begins kw_670 ks_9 kw_668 (c_M_begins l dC dI g1 g2 g3 g4 g5 g6 g7 A aM m1 m2 m3 m4 m5 m6 m7 d n kd ht tk (upd so i σ.1) lt sto ni ac bl σ.2 0) hK hP hD hS 0 rfl zC_M.1 rfl rfl hl.1 rfl (Nat.le_of_ble_eq_true rfl) ⟨Nat.le_of_ble_eq_true rfl, Nat.le_of_ble_eq_true rfl⟩ d_M_burnLamp_2 ⟨Nat.le_refl _, Nat.le_refl _⟩ (fun H locs hP hD hS => ?_)
  have hP : va_P (dC, dI) classes (wm g1 g2 g3 g4 g5 g6 g7 aM m1 m2 m3 m4 m5 m6 m7 d n kd ht tk (upd so i (σ.1, tb 0 σ.2).1) lt sto ni ac bl (σ.1, tb 0 σ.2).2) H := hP
  have hD : va_D A (wm g1 g2 g3 g4 g5 g6 g7 aM m1 m2 m3 m4 m5 m6 m7 d n kd ht tk (upd so i (σ.1, tb 0 σ.2).1) lt sto ni ac bl (σ.1, tb 0 σ.2).2) := hD
  refine lv_aload_n hx hb d_M_burnLamp_5 rfl (lv_at hl 0 rfl) ?_
  refine zget (ci := 11) (fs := [.ref m1, .int (nI n), .ref m2, .ref m3, .ref m4, .ref m5, .ref m6, .long sto, .int ni, .int ac, .int bl, .ref m7, .int (nI (tb 0 σ.2).2.1)]) E hK hP 0 rfl zC_M 5 (by decide) kw_595 (Or.inl rfl) rfl d_M_burnLamp_6 ?_
  refine lv_iload_n hx hb d_M_burnLamp_9 rfl (lv_at hl 1 rfl) ?_
  refine lv_dup2_11 hx hb d_M_burnLamp_10 rfl rfl ?_
  refine va_iald hx hb hK hP 5 4 rfl rfl (vp_in_nI hi (by decide)) d_M_burnLamp_11 ?_
  rw [nI_clamp (i31 hi)]
  rw [pk_us]
  refine lv_iload_n hx hb d_M_burnLamp_12 rfl (lv_at hl 2 rfl) ?_
  refine lv_iadd hx hb d_M_burnLamp_13 ?_
  refine va_iast hx hb hK hP hD hS 5 4 rfl rfl (vp_in_nI hi (by decide)) d_M_burnLamp_14 (fun H locs hP hD hS => ?_)
  rw [nI_clamp (i31 hi)] at hP hD
  rw [upd_upd] at hP hD
  have hP : va_P (dC, dI) classes (wm g1 g2 g3 g4 g5 g6 g7 aM m1 m2 m3 m4 m5 m6 m7 d n kd ht tk (upd so i (σ.1 + x, tb 0 σ.2).1) lt sto ni ac bl (σ.1 + x, tb 0 σ.2).2) H := hP
  have hD : va_D A (wm g1 g2 g3 g4 g5 g6 g7 aM m1 m2 m3 m4 m5 m6 m7 d n kd ht tk (upd so i (σ.1 + x, tb 0 σ.2).1) lt sto ni ac bl (σ.1 + x, tb 0 σ.2).2) := hD
  refine lv_iload_n hx hb d_M_burnLamp_15 rfl (lv_at hl 2 rfl) ?_
  refine lv_aload_n hx hb d_M_burnLamp_16 rfl (lv_at hl 0 rfl) ?_
  refine zget (ci := 11) (fs := [.ref m1, .int (nI n), .ref m2, .ref m3, .ref m4, .ref m5, .ref m6, .long sto, .int ni, .int ac, .int bl, .ref m7, .int (nI (tb 0 σ.2).2.1)]) E hK hP 0 rfl zC_M 0 (by decide) kw_590 (Or.inl rfl) rfl d_M_burnLamp_17 ?_
  refine lv_iconst (v := 0) hx hb d_M_burnLamp_20 (by decide) ?_
  refine va_iald hx hb hK hP 1 0 rfl rfl (by unfold vp_in; decide) d_M_burnLamp_21 ?_
  rw [show (0 : Int32).toNatClampNeg = 0 from by decide]
  refine lv_imul hx hb d_M_burnLamp_22 ?_
  refine lv_iconst (v := 1) hx hb d_M_burnLamp_23 (by decide) ?_
  refine lv_iadd hx hb d_M_burnLamp_24 ?_
  exact zri E hK hP hD hS d_M_burnLamp_25
set_option maxHeartbeats 1000000 in
set_option maxRecDepth 100000 in
theorem c_M_burnOil (l : Launch) (dC : Nat → ClassId) (dI : Nat → Nat → Nat) (g1 g2 g3 g4 g5 g6 g7 : ClassId) (A : Nat → Prop) (aM m1 m2 m3 m4 m5 m6 m7 : Nat) (d : Nat → Int32) (n : Nat) (kd ht tk so lt : Nat → Int32) (sto : Int64) (ni ac bl : Int32) (i : Nat) (hi : i < 60) (σ : zS) (x : Int32) : zM l y_M_burnOil b_M_burnOil 4 (some (FieldType.int)) 2 43 [.ref aM, .int (nI i), .int x] (dC, dI) (t7 g1 g2 g3 g4 g5 g6 g7) A (wm g1 g2 g3 g4 g5 g6 g7 aM m1 m2 m3 m4 m5 m6 m7 d n kd ht tk (upd so i σ.1) lt sto ni ac bl σ.2) (wm g1 g2 g3 g4 g5 g6 g7 aM m1 m2 m3 m4 m5 m6 m7 d n kd ht tk (upd so i (bOil d x σ).2.1) lt sto ni ac bl (bOil d x σ).2.2) (some (.int (bOil d x σ).1)) := by
  refine zM_of "CoastLampsModel" rfl (by decide) (Nat.le_of_ble_eq_true rfl) ?_
  intro p e s m below meth c ls E hP hK hD hS hl
  obtain ⟨hx, hb, hml, ho, hts, hr, hlk⟩ := id E
  have hl : lv_has ls 4 [(0, .ref aM), (1, .int (nI i)), (2, .int x)] := hl
  refine lv_aload_n hx hb d_M_burnOil_0 rfl (lv_at hl 0 rfl) ?_
  refine lv_bipush (v := 10) hx hb d_M_burnOil_1 (by decide) ?_
  refine zcV (As := [.int 10]) (rest := []) (ci := 11) E cy_M_begins kw_670 ks_9 kw_668 (c_M_begins l dC dI g1 g2 g3 g4 g5 g6 g7 A aM m1 m2 m3 m4 m5 m6 m7 d n kd ht tk (upd so i σ.1) lt sto ni ac bl σ.2 10) hK hP hD hS 0 rfl zC_M.1 rfl rfl hl.1 rfl (Nat.le_of_ble_eq_true rfl) ⟨Nat.le_of_ble_eq_true rfl, Nat.le_of_ble_eq_true rfl⟩ d_M_burnOil_3 ⟨Nat.le_refl _, Nat.le_refl _⟩ (fun H locs hP hD hS => ?_)
  have hP : va_P (dC, dI) classes (wm g1 g2 g3 g4 g5 g6 g7 aM m1 m2 m3 m4 m5 m6 m7 d n kd ht tk (upd so i (σ.1, tb 10 σ.2).1) lt sto ni ac bl (σ.1, tb 10 σ.2).2) H := hP
  have hD : va_D A (wm g1 g2 g3 g4 g5 g6 g7 aM m1 m2 m3 m4 m5 m6 m7 d n kd ht tk (upd so i (σ.1, tb 10 σ.2).1) lt sto ni ac bl (σ.1, tb 10 σ.2).2) := hD
  refine lv_aload_n hx hb d_M_burnOil_6 rfl (lv_at hl 0 rfl) ?_
  refine lv_iload_n hx hb d_M_burnOil_7 rfl (lv_at hl 1 rfl) ?_
  refine lv_iload_n hx hb d_M_burnOil_8 rfl (lv_at hl 2 rfl) ?_
  refine zcV (As := [.int (nI i), .int x]) (rest := []) (ci := 11) E cy_M_burnLamp kw_674 ks_10 kw_672 (c_M_burnLamp l dC dI g1 g2 g3 g4 g5 g6 g7 A aM m1 m2 m3 m4 m5 m6 m7 d n kd ht tk so lt sto ni ac bl i hi (σ.1, tb 10 σ.2) x) hK hP hD hS 0 rfl zC_M.1 rfl rfl hl.1 rfl (Nat.le_of_ble_eq_true rfl) ⟨Nat.le_of_ble_eq_true rfl, Nat.le_of_ble_eq_true rfl⟩ d_M_burnOil_9 ⟨Nat.le_refl _, Nat.le_refl _⟩ (fun H locs hP hD hS => ?_)
  have hP : va_P (dC, dI) classes (wm g1 g2 g3 g4 g5 g6 g7 aM m1 m2 m3 m4 m5 m6 m7 d n kd ht tk (upd so i ((bLamp d x (σ.1, tb 10 σ.2)).2).1) lt sto ni ac bl ((bLamp d x (σ.1, tb 10 σ.2)).2).2) H := hP
  have hD : va_D A (wm g1 g2 g3 g4 g5 g6 g7 aM m1 m2 m3 m4 m5 m6 m7 d n kd ht tk (upd so i ((bLamp d x (σ.1, tb 10 σ.2)).2).1) lt sto ni ac bl ((bLamp d x (σ.1, tb 10 σ.2)).2).2) := hD
  refine lv_istore_n (lv' := [(3, .int ((bLamp d x (σ.1, tb 10 σ.2)).1)), (0, .ref aM), (1, .int (nI i)), (2, .int x)]) hx hb d_M_burnOil_12 rfl hl (by decide) rfl (fun ls hl => ?_)
  refine lv_iload_n hx hb d_M_burnOil_13 rfl (lv_at hl 0 rfl) ?_
  refine lv_aload_n hx hb d_M_burnOil_14 rfl (lv_at hl 1 rfl) ?_
  refine zget (ci := 11) (fs := [.ref m1, .int (nI n), .ref m2, .ref m3, .ref m4, .ref m5, .ref m6, .long sto, .int ni, .int ac, .int bl, .ref m7, .int (nI (((bLamp d x (σ.1, tb 10 σ.2)).2).2).2.1)]) E hK hP 0 rfl zC_M 5 (by decide) kw_595 (Or.inl rfl) rfl d_M_burnOil_15 ?_
  refine lv_iload_n hx hb d_M_burnOil_18 rfl (lv_at hl 2 rfl) ?_
  refine va_iald hx hb hK hP 5 4 rfl rfl (vp_in_nI hi (by decide)) d_M_burnOil_19 ?_
  rw [nI_clamp (i31 hi)]
  rw [pk_us]
  refine lv_bipush (v := 50) hx hb d_M_burnOil_20 (by decide) ?_
  refine lv_idiv hx hb d_M_burnOil_22 (by decide) ?_
  refine lv_iadd hx hb d_M_burnOil_23 ?_
  exact zri E hK hP hD hS d_M_burnOil_24
set_option maxHeartbeats 1000000 in
set_option maxRecDepth 100000 in
theorem c_M_burnTwin (l : Launch) (dC : Nat → ClassId) (dI : Nat → Nat → Nat) (g1 g2 g3 g4 g5 g6 g7 : ClassId) (A : Nat → Prop) (aM m1 m2 m3 m4 m5 m6 m7 : Nat) (d : Nat → Int32) (n : Nat) (kd ht tk so lt : Nat → Int32) (sto : Int64) (ni ac bl : Int32) (i : Nat) (hi : i < 60) (σ : zS) (x : Int32) : zM l y_M_burnTwin b_M_burnTwin 4 (some (FieldType.int)) 3 66 [.ref aM, .int (nI i), .int x] (dC, dI) (t7 g1 g2 g3 g4 g5 g6 g7) A (wm g1 g2 g3 g4 g5 g6 g7 aM m1 m2 m3 m4 m5 m6 m7 d n kd ht tk (upd so i σ.1) lt sto ni ac bl σ.2) (wm g1 g2 g3 g4 g5 g6 g7 aM m1 m2 m3 m4 m5 m6 m7 d n kd ht tk (upd so i (bTwin d x σ).2.1) lt sto ni ac bl (bTwin d x σ).2.2) (some (.int (bTwin d x σ).1)) := by
  refine zM_of "CoastLampsModel" rfl (by decide) (Nat.le_of_ble_eq_true rfl) ?_
  intro p e s m below meth c ls E hP hK hD hS hl
  obtain ⟨hx, hb, hml, ho, hts, hr, hlk⟩ := id E
  have hl : lv_has ls 4 [(0, .ref aM), (1, .int (nI i)), (2, .int x)] := hl
  refine lv_aload_n hx hb d_M_burnTwin_0 rfl (lv_at hl 0 rfl) ?_
  refine lv_bipush (v := 30) hx hb d_M_burnTwin_1 (by decide) ?_
  refine zcV (As := [.int 30]) (rest := []) (ci := 11) E cy_M_begins kw_670 ks_9 kw_668 (c_M_begins l dC dI g1 g2 g3 g4 g5 g6 g7 A aM m1 m2 m3 m4 m5 m6 m7 d n kd ht tk (upd so i σ.1) lt sto ni ac bl σ.2 30) hK hP hD hS 0 rfl zC_M.1 rfl rfl hl.1 rfl (Nat.le_of_ble_eq_true rfl) ⟨Nat.le_of_ble_eq_true rfl, Nat.le_of_ble_eq_true rfl⟩ d_M_burnTwin_3 ⟨Nat.le_refl _, Nat.le_refl _⟩ (fun H locs hP hD hS => ?_)
  have hP : va_P (dC, dI) classes (wm g1 g2 g3 g4 g5 g6 g7 aM m1 m2 m3 m4 m5 m6 m7 d n kd ht tk (upd so i (σ.1, tb 30 σ.2).1) lt sto ni ac bl (σ.1, tb 30 σ.2).2) H := hP
  have hD : va_D A (wm g1 g2 g3 g4 g5 g6 g7 aM m1 m2 m3 m4 m5 m6 m7 d n kd ht tk (upd so i (σ.1, tb 30 σ.2).1) lt sto ni ac bl (σ.1, tb 30 σ.2).2) := hD
  refine lv_aload_n hx hb d_M_burnTwin_6 rfl (lv_at hl 0 rfl) ?_
  refine lv_iload_n hx hb d_M_burnTwin_7 rfl (lv_at hl 1 rfl) ?_
  refine lv_iload_n hx hb d_M_burnTwin_8 rfl (lv_at hl 2 rfl) ?_
  refine zcV (As := [.int (nI i), .int x]) (rest := []) (ci := 11) E cy_M_burnOil kw_666 ks_8 kw_664 (c_M_burnOil l dC dI g1 g2 g3 g4 g5 g6 g7 A aM m1 m2 m3 m4 m5 m6 m7 d n kd ht tk so lt sto ni ac bl i hi (σ.1, tb 30 σ.2) x) hK hP hD hS 0 rfl zC_M.1 rfl rfl hl.1 rfl (Nat.le_of_ble_eq_true rfl) ⟨Nat.le_of_ble_eq_true rfl, Nat.le_of_ble_eq_true rfl⟩ d_M_burnTwin_9 ⟨Nat.le_refl _, Nat.le_refl _⟩ (fun H locs hP hD hS => ?_)
  have hP : va_P (dC, dI) classes (wm g1 g2 g3 g4 g5 g6 g7 aM m1 m2 m3 m4 m5 m6 m7 d n kd ht tk (upd so i ((bOil d x (σ.1, tb 30 σ.2)).2).1) lt sto ni ac bl ((bOil d x (σ.1, tb 30 σ.2)).2).2) H := hP
  have hD : va_D A (wm g1 g2 g3 g4 g5 g6 g7 aM m1 m2 m3 m4 m5 m6 m7 d n kd ht tk (upd so i ((bOil d x (σ.1, tb 30 σ.2)).2).1) lt sto ni ac bl ((bOil d x (σ.1, tb 30 σ.2)).2).2) := hD
  refine lv_istore_n (lv' := [(3, .int ((bOil d x (σ.1, tb 30 σ.2)).1)), (0, .ref aM), (1, .int (nI i)), (2, .int x)]) hx hb d_M_burnTwin_12 rfl hl (by decide) rfl (fun ls hl => ?_)
  refine lv_iload_n hx hb d_M_burnTwin_13 rfl (lv_at hl 0 rfl) ?_
  refine lv_aload_n hx hb d_M_burnTwin_14 rfl (lv_at hl 1 rfl) ?_
  refine lv_iload_n hx hb d_M_burnTwin_15 rfl (lv_at hl 2 rfl) ?_
  refine lv_iload_n hx hb d_M_burnTwin_16 rfl (lv_at hl 3 rfl) ?_
  refine zcV (As := [.int (nI i), .int x]) (rest := [.int ((bOil d x (σ.1, tb 30 σ.2)).1)]) (ci := 11) E cy_M_burnOil kw_666 ks_8 kw_664 (c_M_burnOil l dC dI g1 g2 g3 g4 g5 g6 g7 A aM m1 m2 m3 m4 m5 m6 m7 d n kd ht tk so lt sto ni ac bl i hi ((bOil d x (σ.1, tb 30 σ.2)).2) x) hK hP hD hS 0 rfl zC_M.1 rfl rfl hl.1 rfl (Nat.le_of_ble_eq_true rfl) ⟨Nat.le_of_ble_eq_true rfl, Nat.le_of_ble_eq_true rfl⟩ d_M_burnTwin_17 ⟨Nat.le_refl _, Nat.le_refl _⟩ (fun H locs hP hD hS => ?_)
  have hP : va_P (dC, dI) classes (wm g1 g2 g3 g4 g5 g6 g7 aM m1 m2 m3 m4 m5 m6 m7 d n kd ht tk (upd so i ((bOil d x ((bOil d x (σ.1, tb 30 σ.2)).2)).2).1) lt sto ni ac bl ((bOil d x ((bOil d x (σ.1, tb 30 σ.2)).2)).2).2) H := hP
  have hD : va_D A (wm g1 g2 g3 g4 g5 g6 g7 aM m1 m2 m3 m4 m5 m6 m7 d n kd ht tk (upd so i ((bOil d x ((bOil d x (σ.1, tb 30 σ.2)).2)).2).1) lt sto ni ac bl ((bOil d x ((bOil d x (σ.1, tb 30 σ.2)).2)).2).2) := hD
  refine lv_iadd hx hb d_M_burnTwin_20 ?_
  exact zri E hK hP hD hS d_M_burnTwin_21
set_option maxHeartbeats 1000000 in
set_option maxRecDepth 100000 in
theorem c_M_burnSwing (l : Launch) (dC : Nat → ClassId) (dI : Nat → Nat → Nat) (g1 g2 g3 g4 g5 g6 g7 : ClassId) (A : Nat → Prop) (aM m1 m2 m3 m4 m5 m6 m7 : Nat) (d : Nat → Int32) (n : Nat) (kd ht tk so lt : Nat → Int32) (sto : Int64) (ni ac bl : Int32) (i : Nat) (hi : i < 60) (σ : zS) (x : Int32) : zM l y_M_burnSwing b_M_burnSwing 3 (some (FieldType.int)) 4 89 [.ref aM, .int (nI i), .int x] (dC, dI) (t7 g1 g2 g3 g4 g5 g6 g7) A (wm g1 g2 g3 g4 g5 g6 g7 aM m1 m2 m3 m4 m5 m6 m7 d n kd ht tk (upd so i σ.1) lt sto ni ac bl σ.2) (wm g1 g2 g3 g4 g5 g6 g7 aM m1 m2 m3 m4 m5 m6 m7 d n kd ht tk (upd so i (bSwing d x σ).2.1) lt sto ni ac bl (bSwing d x σ).2.2) (some (.int (bSwing d x σ).1)) := by
  refine zM_of "CoastLampsModel" rfl (by decide) (Nat.le_of_ble_eq_true rfl) ?_
  intro p e s m below meth c ls E hP hK hD hS hl
  obtain ⟨hx, hb, hml, ho, hts, hr, hlk⟩ := id E
  have hl : lv_has ls 3 [(0, .ref aM), (1, .int (nI i)), (2, .int x)] := hl
  refine lv_aload_n hx hb d_M_burnSwing_0 rfl (lv_at hl 0 rfl) ?_
  refine lv_bipush (v := 50) hx hb d_M_burnSwing_1 (by decide) ?_
  refine zcV (As := [.int 50]) (rest := []) (ci := 11) E cy_M_begins kw_670 ks_9 kw_668 (c_M_begins l dC dI g1 g2 g3 g4 g5 g6 g7 A aM m1 m2 m3 m4 m5 m6 m7 d n kd ht tk (upd so i σ.1) lt sto ni ac bl σ.2 50) hK hP hD hS 0 rfl zC_M.1 rfl rfl hl.1 rfl (Nat.le_of_ble_eq_true rfl) ⟨Nat.le_of_ble_eq_true rfl, Nat.le_of_ble_eq_true rfl⟩ d_M_burnSwing_3 ⟨Nat.le_refl _, Nat.le_refl _⟩ (fun H locs hP hD hS => ?_)
  have hP : va_P (dC, dI) classes (wm g1 g2 g3 g4 g5 g6 g7 aM m1 m2 m3 m4 m5 m6 m7 d n kd ht tk (upd so i (σ.1, tb 50 σ.2).1) lt sto ni ac bl (σ.1, tb 50 σ.2).2) H := hP
  have hD : va_D A (wm g1 g2 g3 g4 g5 g6 g7 aM m1 m2 m3 m4 m5 m6 m7 d n kd ht tk (upd so i (σ.1, tb 50 σ.2).1) lt sto ni ac bl (σ.1, tb 50 σ.2).2) := hD
  refine lv_aload_n hx hb d_M_burnSwing_6 rfl (lv_at hl 0 rfl) ?_
  refine lv_iload_n hx hb d_M_burnSwing_7 rfl (lv_at hl 1 rfl) ?_
  refine lv_iload_n hx hb d_M_burnSwing_8 rfl (lv_at hl 2 rfl) ?_
  refine zcV (As := [.int (nI i), .int x]) (rest := []) (ci := 11) E cy_M_burnTwin kw_678 ks_11 kw_676 (c_M_burnTwin l dC dI g1 g2 g3 g4 g5 g6 g7 A aM m1 m2 m3 m4 m5 m6 m7 d n kd ht tk so lt sto ni ac bl i hi (σ.1, tb 50 σ.2) x) hK hP hD hS 0 rfl zC_M.1 rfl rfl hl.1 rfl (Nat.le_of_ble_eq_true rfl) ⟨Nat.le_of_ble_eq_true rfl, Nat.le_of_ble_eq_true rfl⟩ d_M_burnSwing_9 ⟨Nat.le_refl _, Nat.le_refl _⟩ (fun H locs hP hD hS => ?_)
  have hP : va_P (dC, dI) classes (wm g1 g2 g3 g4 g5 g6 g7 aM m1 m2 m3 m4 m5 m6 m7 d n kd ht tk (upd so i ((bTwin d x (σ.1, tb 50 σ.2)).2).1) lt sto ni ac bl ((bTwin d x (σ.1, tb 50 σ.2)).2).2) H := hP
  have hD : va_D A (wm g1 g2 g3 g4 g5 g6 g7 aM m1 m2 m3 m4 m5 m6 m7 d n kd ht tk (upd so i ((bTwin d x (σ.1, tb 50 σ.2)).2).1) lt sto ni ac bl ((bTwin d x (σ.1, tb 50 σ.2)).2).2) := hD
  refine lv_iload_n hx hb d_M_burnSwing_12 rfl (lv_at hl 2 rfl) ?_
  refine lv_iconst (v := 2) hx hb d_M_burnSwing_13 (by decide) ?_
  refine lv_idiv hx hb d_M_burnSwing_14 (by decide) ?_
  refine lv_iadd hx hb d_M_burnSwing_15 ?_
  exact zri E hK hP hD hS d_M_burnSwing_16
set_option maxHeartbeats 1000000 in
set_option maxRecDepth 100000 in
theorem c_M_burnFlare (l : Launch) (dC : Nat → ClassId) (dI : Nat → Nat → Nat) (g1 g2 g3 g4 g5 g6 g7 : ClassId) (A : Nat → Prop) (aM m1 m2 m3 m4 m5 m6 m7 : Nat) (d : Nat → Int32) (n : Nat) (kd ht tk so lt : Nat → Int32) (sto : Int64) (ni ac bl : Int32) (i : Nat) (hi : i < 60) (σ : zS) (x : Int32) : zM l y_M_burnFlare b_M_burnFlare 3 (some (FieldType.int)) 2 43 [.ref aM, .int (nI i), .int x] (dC, dI) (t7 g1 g2 g3 g4 g5 g6 g7) A (wm g1 g2 g3 g4 g5 g6 g7 aM m1 m2 m3 m4 m5 m6 m7 d n kd ht tk (upd so i σ.1) lt sto ni ac bl σ.2) (wm g1 g2 g3 g4 g5 g6 g7 aM m1 m2 m3 m4 m5 m6 m7 d n kd ht tk (upd so i (bFlare d x σ).2.1) lt sto ni ac bl (bFlare d x σ).2.2) (some (.int (bFlare d x σ).1)) := by
  refine zM_of "CoastLampsModel" rfl (by decide) (Nat.le_of_ble_eq_true rfl) ?_
  intro p e s m below meth c ls E hP hK hD hS hl
  obtain ⟨hx, hb, hml, ho, hts, hr, hlk⟩ := id E
  have hl : lv_has ls 3 [(0, .ref aM), (1, .int (nI i)), (2, .int x)] := hl
  refine lv_aload_n hx hb d_M_burnFlare_0 rfl (lv_at hl 0 rfl) ?_
  refine lv_bipush (v := 70) hx hb d_M_burnFlare_1 (by decide) ?_
  refine zcV (As := [.int 70]) (rest := []) (ci := 11) E cy_M_begins kw_670 ks_9 kw_668 (c_M_begins l dC dI g1 g2 g3 g4 g5 g6 g7 A aM m1 m2 m3 m4 m5 m6 m7 d n kd ht tk (upd so i σ.1) lt sto ni ac bl σ.2 70) hK hP hD hS 0 rfl zC_M.1 rfl rfl hl.1 rfl (Nat.le_of_ble_eq_true rfl) ⟨Nat.le_of_ble_eq_true rfl, Nat.le_of_ble_eq_true rfl⟩ d_M_burnFlare_3 ⟨Nat.le_refl _, Nat.le_refl _⟩ (fun H locs hP hD hS => ?_)
  have hP : va_P (dC, dI) classes (wm g1 g2 g3 g4 g5 g6 g7 aM m1 m2 m3 m4 m5 m6 m7 d n kd ht tk (upd so i (σ.1, tb 70 σ.2).1) lt sto ni ac bl (σ.1, tb 70 σ.2).2) H := hP
  have hD : va_D A (wm g1 g2 g3 g4 g5 g6 g7 aM m1 m2 m3 m4 m5 m6 m7 d n kd ht tk (upd so i (σ.1, tb 70 σ.2).1) lt sto ni ac bl (σ.1, tb 70 σ.2).2) := hD
  refine lv_aload_n hx hb d_M_burnFlare_6 rfl (lv_at hl 0 rfl) ?_
  refine lv_iload_n hx hb d_M_burnFlare_7 rfl (lv_at hl 1 rfl) ?_
  refine lv_iload_n hx hb d_M_burnFlare_8 rfl (lv_at hl 2 rfl) ?_
  refine lv_iconst (v := 2) hx hb d_M_burnFlare_9 (by decide) ?_
  refine lv_idiv hx hb d_M_burnFlare_10 (by decide) ?_
  refine zcV (As := [.int (nI i), .int (x / 2)]) (rest := []) (ci := 11) E cy_M_burnLamp kw_674 ks_10 kw_672 (c_M_burnLamp l dC dI g1 g2 g3 g4 g5 g6 g7 A aM m1 m2 m3 m4 m5 m6 m7 d n kd ht tk so lt sto ni ac bl i hi (σ.1, tb 70 σ.2) (x / 2)) hK hP hD hS 0 rfl zC_M.1 rfl rfl hl.1 rfl (Nat.le_of_ble_eq_true rfl) ⟨Nat.le_of_ble_eq_true rfl, Nat.le_of_ble_eq_true rfl⟩ d_M_burnFlare_11 ⟨Nat.le_refl _, Nat.le_refl _⟩ (fun H locs hP hD hS => ?_)
  have hP : va_P (dC, dI) classes (wm g1 g2 g3 g4 g5 g6 g7 aM m1 m2 m3 m4 m5 m6 m7 d n kd ht tk (upd so i ((bLamp d (x / 2) (σ.1, tb 70 σ.2)).2).1) lt sto ni ac bl ((bLamp d (x / 2) (σ.1, tb 70 σ.2)).2).2) H := hP
  have hD : va_D A (wm g1 g2 g3 g4 g5 g6 g7 aM m1 m2 m3 m4 m5 m6 m7 d n kd ht tk (upd so i ((bLamp d (x / 2) (σ.1, tb 70 σ.2)).2).1) lt sto ni ac bl ((bLamp d (x / 2) (σ.1, tb 70 σ.2)).2).2) := hD
  exact zri E hK hP hD hS d_M_burnFlare_14
set_option maxHeartbeats 1000000 in
set_option maxRecDepth 100000 in
theorem c_M_burnOuter (l : Launch) (dC : Nat → ClassId) (dI : Nat → Nat → Nat) (g1 g2 g3 g4 g5 g6 g7 : ClassId) (A : Nat → Prop) (aM m1 m2 m3 m4 m5 m6 m7 : Nat) (d : Nat → Int32) (n : Nat) (kd ht tk so lt : Nat → Int32) (sto : Int64) (ni ac bl : Int32) (i : Nat) (hi : i < 60) (σ : zS) (x : Int32) : zM l y_M_burnOuter b_M_burnOuter 4 (some (FieldType.int)) 3 65 [.ref aM, .int (nI i), .int x] (dC, dI) (t7 g1 g2 g3 g4 g5 g6 g7) A (wm g1 g2 g3 g4 g5 g6 g7 aM m1 m2 m3 m4 m5 m6 m7 d n kd ht tk (upd so i σ.1) lt sto ni ac bl σ.2) (wm g1 g2 g3 g4 g5 g6 g7 aM m1 m2 m3 m4 m5 m6 m7 d n kd ht tk (upd so i (bOuter d x σ).2.1) lt sto ni ac bl (bOuter d x σ).2.2) (some (.int (bOuter d x σ).1)) := by
  by_cases h1 : (bFlare d x (σ.1, tb 90 σ.2)).1 - d 1 < 0
  · have e9 : bOuter d x σ = (0, (bFlare d x (σ.1, tb 90 σ.2)).2) := by simp only [bOuter, if_pos h1]
    rw [e9]
    try dsimp only
    refine zM_of "CoastLampsModel" rfl (by decide) (Nat.le_of_ble_eq_true rfl) ?_
    intro p e s m below meth c ls E hP hK hD hS hl
    obtain ⟨hx, hb, hml, ho, hts, hr, hlk⟩ := id E
    have hl : lv_has ls 4 [(0, .ref aM), (1, .int (nI i)), (2, .int x)] := hl
    refine lv_aload_n hx hb d_M_burnOuter_0 rfl (lv_at hl 0 rfl) ?_
    refine lv_bipush (v := 90) hx hb d_M_burnOuter_1 (by decide) ?_
    refine zcV (As := [.int 90]) (rest := []) (ci := 11) E cy_M_begins kw_670 ks_9 kw_668 (c_M_begins l dC dI g1 g2 g3 g4 g5 g6 g7 A aM m1 m2 m3 m4 m5 m6 m7 d n kd ht tk (upd so i σ.1) lt sto ni ac bl σ.2 90) hK hP hD hS 0 rfl zC_M.1 rfl rfl hl.1 rfl (Nat.le_of_ble_eq_true rfl) ⟨Nat.le_of_ble_eq_true rfl, Nat.le_of_ble_eq_true rfl⟩ d_M_burnOuter_3 ⟨Nat.le_refl _, Nat.le_refl _⟩ (fun H locs hP hD hS => ?_)
    have hP : va_P (dC, dI) classes (wm g1 g2 g3 g4 g5 g6 g7 aM m1 m2 m3 m4 m5 m6 m7 d n kd ht tk (upd so i (σ.1, tb 90 σ.2).1) lt sto ni ac bl (σ.1, tb 90 σ.2).2) H := hP
    have hD : va_D A (wm g1 g2 g3 g4 g5 g6 g7 aM m1 m2 m3 m4 m5 m6 m7 d n kd ht tk (upd so i (σ.1, tb 90 σ.2).1) lt sto ni ac bl (σ.1, tb 90 σ.2).2) := hD
    refine lv_aload_n hx hb d_M_burnOuter_6 rfl (lv_at hl 0 rfl) ?_
    refine lv_iload_n hx hb d_M_burnOuter_7 rfl (lv_at hl 1 rfl) ?_
    refine lv_iload_n hx hb d_M_burnOuter_8 rfl (lv_at hl 2 rfl) ?_
    refine zcV (As := [.int (nI i), .int x]) (rest := []) (ci := 11) E cy_M_burnFlare kw_690 ks_14 kw_688 (c_M_burnFlare l dC dI g1 g2 g3 g4 g5 g6 g7 A aM m1 m2 m3 m4 m5 m6 m7 d n kd ht tk so lt sto ni ac bl i hi (σ.1, tb 90 σ.2) x) hK hP hD hS 0 rfl zC_M.1 rfl rfl hl.1 rfl (Nat.le_of_ble_eq_true rfl) ⟨Nat.le_of_ble_eq_true rfl, Nat.le_of_ble_eq_true rfl⟩ d_M_burnOuter_9 ⟨Nat.le_refl _, Nat.le_refl _⟩ (fun H locs hP hD hS => ?_)
    have hP : va_P (dC, dI) classes (wm g1 g2 g3 g4 g5 g6 g7 aM m1 m2 m3 m4 m5 m6 m7 d n kd ht tk (upd so i ((bFlare d x (σ.1, tb 90 σ.2)).2).1) lt sto ni ac bl ((bFlare d x (σ.1, tb 90 σ.2)).2).2) H := hP
    have hD : va_D A (wm g1 g2 g3 g4 g5 g6 g7 aM m1 m2 m3 m4 m5 m6 m7 d n kd ht tk (upd so i ((bFlare d x (σ.1, tb 90 σ.2)).2).1) lt sto ni ac bl ((bFlare d x (σ.1, tb 90 σ.2)).2).2) := hD
    refine lv_aload_n hx hb d_M_burnOuter_12 rfl (lv_at hl 0 rfl) ?_
    refine zget (ci := 11) (fs := [.ref m1, .int (nI n), .ref m2, .ref m3, .ref m4, .ref m5, .ref m6, .long sto, .int ni, .int ac, .int bl, .ref m7, .int (nI (((bFlare d x (σ.1, tb 90 σ.2)).2).2).2.1)]) E hK hP 0 rfl zC_M 0 (by decide) kw_590 (Or.inl rfl) rfl d_M_burnOuter_13 ?_
    refine lv_iconst (v := 1) hx hb d_M_burnOuter_16 (by decide) ?_
    refine va_iald hx hb hK hP 1 0 rfl rfl (by unfold vp_in; decide) d_M_burnOuter_17 ?_
    rw [show (1 : Int32).toNatClampNeg = 1 from by decide]
    refine lv_isub hx hb d_M_burnOuter_18 ?_
    refine lv_istore_n (lv' := [(3, .int (((bFlare d x (σ.1, tb 90 σ.2)).1) - (d 1))), (0, .ref aM), (1, .int (nI i)), (2, .int x)]) hx hb d_M_burnOuter_19 rfl hl (by decide) rfl (fun ls hl => ?_)
    refine lv_iload_n hx hb d_M_burnOuter_20 rfl (lv_at hl 0 rfl) ?_
    refine lv_if_ge (tgt := 28) hx hb d_M_burnOuter_21 (by decide) (fun h9 => absurd h9 (Int32.not_le.mpr h1)) (fun _ => ?_)
    refine lv_iconst (v := 0) hx hb d_M_burnOuter_24 (by decide) ?_
    refine lv_goto (tgt := 29) hx hb d_M_burnOuter_25 (by decide) ?_
    exact zri E hK hP hD hS d_M_burnOuter_29
  · have e9 : bOuter d x σ = ((bFlare d x (σ.1, tb 90 σ.2)).1 - d 1, (bFlare d x (σ.1, tb 90 σ.2)).2) := by simp only [bOuter, if_neg h1]
    rw [e9]
    try dsimp only
    refine zM_of "CoastLampsModel" rfl (by decide) (Nat.le_of_ble_eq_true rfl) ?_
    intro p e s m below meth c ls E hP hK hD hS hl
    obtain ⟨hx, hb, hml, ho, hts, hr, hlk⟩ := id E
    have hl : lv_has ls 4 [(0, .ref aM), (1, .int (nI i)), (2, .int x)] := hl
    refine lv_aload_n hx hb d_M_burnOuter_0 rfl (lv_at hl 0 rfl) ?_
    refine lv_bipush (v := 90) hx hb d_M_burnOuter_1 (by decide) ?_
    refine zcV (As := [.int 90]) (rest := []) (ci := 11) E cy_M_begins kw_670 ks_9 kw_668 (c_M_begins l dC dI g1 g2 g3 g4 g5 g6 g7 A aM m1 m2 m3 m4 m5 m6 m7 d n kd ht tk (upd so i σ.1) lt sto ni ac bl σ.2 90) hK hP hD hS 0 rfl zC_M.1 rfl rfl hl.1 rfl (Nat.le_of_ble_eq_true rfl) ⟨Nat.le_of_ble_eq_true rfl, Nat.le_of_ble_eq_true rfl⟩ d_M_burnOuter_3 ⟨Nat.le_refl _, Nat.le_refl _⟩ (fun H locs hP hD hS => ?_)
    have hP : va_P (dC, dI) classes (wm g1 g2 g3 g4 g5 g6 g7 aM m1 m2 m3 m4 m5 m6 m7 d n kd ht tk (upd so i (σ.1, tb 90 σ.2).1) lt sto ni ac bl (σ.1, tb 90 σ.2).2) H := hP
    have hD : va_D A (wm g1 g2 g3 g4 g5 g6 g7 aM m1 m2 m3 m4 m5 m6 m7 d n kd ht tk (upd so i (σ.1, tb 90 σ.2).1) lt sto ni ac bl (σ.1, tb 90 σ.2).2) := hD
    refine lv_aload_n hx hb d_M_burnOuter_6 rfl (lv_at hl 0 rfl) ?_
    refine lv_iload_n hx hb d_M_burnOuter_7 rfl (lv_at hl 1 rfl) ?_
    refine lv_iload_n hx hb d_M_burnOuter_8 rfl (lv_at hl 2 rfl) ?_
    refine zcV (As := [.int (nI i), .int x]) (rest := []) (ci := 11) E cy_M_burnFlare kw_690 ks_14 kw_688 (c_M_burnFlare l dC dI g1 g2 g3 g4 g5 g6 g7 A aM m1 m2 m3 m4 m5 m6 m7 d n kd ht tk so lt sto ni ac bl i hi (σ.1, tb 90 σ.2) x) hK hP hD hS 0 rfl zC_M.1 rfl rfl hl.1 rfl (Nat.le_of_ble_eq_true rfl) ⟨Nat.le_of_ble_eq_true rfl, Nat.le_of_ble_eq_true rfl⟩ d_M_burnOuter_9 ⟨Nat.le_refl _, Nat.le_refl _⟩ (fun H locs hP hD hS => ?_)
    have hP : va_P (dC, dI) classes (wm g1 g2 g3 g4 g5 g6 g7 aM m1 m2 m3 m4 m5 m6 m7 d n kd ht tk (upd so i ((bFlare d x (σ.1, tb 90 σ.2)).2).1) lt sto ni ac bl ((bFlare d x (σ.1, tb 90 σ.2)).2).2) H := hP
    have hD : va_D A (wm g1 g2 g3 g4 g5 g6 g7 aM m1 m2 m3 m4 m5 m6 m7 d n kd ht tk (upd so i ((bFlare d x (σ.1, tb 90 σ.2)).2).1) lt sto ni ac bl ((bFlare d x (σ.1, tb 90 σ.2)).2).2) := hD
    refine lv_aload_n hx hb d_M_burnOuter_12 rfl (lv_at hl 0 rfl) ?_
    refine zget (ci := 11) (fs := [.ref m1, .int (nI n), .ref m2, .ref m3, .ref m4, .ref m5, .ref m6, .long sto, .int ni, .int ac, .int bl, .ref m7, .int (nI (((bFlare d x (σ.1, tb 90 σ.2)).2).2).2.1)]) E hK hP 0 rfl zC_M 0 (by decide) kw_590 (Or.inl rfl) rfl d_M_burnOuter_13 ?_
    refine lv_iconst (v := 1) hx hb d_M_burnOuter_16 (by decide) ?_
    refine va_iald hx hb hK hP 1 0 rfl rfl (by unfold vp_in; decide) d_M_burnOuter_17 ?_
    rw [show (1 : Int32).toNatClampNeg = 1 from by decide]
    refine lv_isub hx hb d_M_burnOuter_18 ?_
    refine lv_istore_n (lv' := [(3, .int (((bFlare d x (σ.1, tb 90 σ.2)).1) - (d 1))), (0, .ref aM), (1, .int (nI i)), (2, .int x)]) hx hb d_M_burnOuter_19 rfl hl (by decide) rfl (fun ls hl => ?_)
    refine lv_iload_n hx hb d_M_burnOuter_20 rfl (lv_at hl 0 rfl) ?_
    refine lv_if_ge (tgt := 28) hx hb d_M_burnOuter_21 (by decide) (fun _ => ?_) (fun h9 => absurd (Int32.not_lt.mp h1) h9)
    refine lv_iload_n hx hb d_M_burnOuter_28 rfl (lv_at hl 0 rfl) ?_
    exact zri E hK hP hD hS d_M_burnOuter_29
set_option maxHeartbeats 1000000 in
set_option maxRecDepth 100000 in
theorem c_M_reachLamp (l : Launch) (dC : Nat → ClassId) (dI : Nat → Nat → Nat) (g1 g2 g3 g4 g5 g6 g7 : ClassId) (A : Nat → Prop) (aM m1 m2 m3 m4 m5 m6 m7 : Nat) (d : Nat → Int32) (n : Nat) (kd ht tk so lt : Nat → Int32) (sto : Int64) (ni ac bl : Int32) (i : Nat) (hi : i < 60) (σ : zS) (x : Int32) : zM l y_M_reachLamp b_M_reachLamp 3 (some (FieldType.int)) 1 21 [.ref aM, .int (nI i), .int x] (dC, dI) (t7 g1 g2 g3 g4 g5 g6 g7) A (wm g1 g2 g3 g4 g5 g6 g7 aM m1 m2 m3 m4 m5 m6 m7 d n kd ht tk (upd so i σ.1) lt sto ni ac bl σ.2) (wm g1 g2 g3 g4 g5 g6 g7 aM m1 m2 m3 m4 m5 m6 m7 d n kd ht tk (upd so i (rLamp (ht i) x σ).2.1) lt sto ni ac bl (rLamp (ht i) x σ).2.2) (some (.int (rLamp (ht i) x σ).1)) := by
  refine zM_of "CoastLampsModel" rfl (by decide) (Nat.le_of_ble_eq_true rfl) ?_
  intro p e s m below meth c ls E hP hK hD hS hl
  obtain ⟨hx, hb, hml, ho, hts, hr, hlk⟩ := id E
  have hl : lv_has ls 3 [(0, .ref aM), (1, .int (nI i)), (2, .int x)] := hl
  refine lv_aload_n hx hb d_M_reachLamp_0 rfl (lv_at hl 0 rfl) ?_
  refine lv_iconst (v := 1) hx hb d_M_reachLamp_1 (by decide) ?_
  refine zcV (As := [.int 1]) (rest := []) (ci := 11) E cy_M_begins kw_670 ks_9 kw_668 (c_M_begins l dC dI g1 g2 g3 g4 g5 g6 g7 A aM m1 m2 m3 m4 m5 m6 m7 d n kd ht tk (upd so i σ.1) lt sto ni ac bl σ.2 1) hK hP hD hS 0 rfl zC_M.1 rfl rfl hl.1 rfl (Nat.le_of_ble_eq_true rfl) ⟨Nat.le_of_ble_eq_true rfl, Nat.le_of_ble_eq_true rfl⟩ d_M_reachLamp_2 ⟨Nat.le_refl _, Nat.le_refl _⟩ (fun H locs hP hD hS => ?_)
  have hP : va_P (dC, dI) classes (wm g1 g2 g3 g4 g5 g6 g7 aM m1 m2 m3 m4 m5 m6 m7 d n kd ht tk (upd so i (σ.1, tb 1 σ.2).1) lt sto ni ac bl (σ.1, tb 1 σ.2).2) H := hP
  have hD : va_D A (wm g1 g2 g3 g4 g5 g6 g7 aM m1 m2 m3 m4 m5 m6 m7 d n kd ht tk (upd so i (σ.1, tb 1 σ.2).1) lt sto ni ac bl (σ.1, tb 1 σ.2).2) := hD
  refine lv_aload_n hx hb d_M_reachLamp_5 rfl (lv_at hl 0 rfl) ?_
  refine zget (ci := 11) (fs := [.ref m1, .int (nI n), .ref m2, .ref m3, .ref m4, .ref m5, .ref m6, .long sto, .int ni, .int ac, .int bl, .ref m7, .int (nI (tb 1 σ.2).2.1)]) E hK hP 0 rfl zC_M 3 (by decide) kw_593 (Or.inl rfl) rfl d_M_reachLamp_6 ?_
  refine lv_iload_n hx hb d_M_reachLamp_9 rfl (lv_at hl 1 rfl) ?_
  refine va_iald hx hb hK hP 3 2 rfl rfl (vp_in_nI hi (by decide)) d_M_reachLamp_10 ?_
  rw [nI_clamp (i31 hi)]
  refine lv_bipush (v := 10) hx hb d_M_reachLamp_11 (by decide) ?_
  refine lv_idiv hx hb d_M_reachLamp_13 (by decide) ?_
  refine lv_bipush (v := 30) hx hb d_M_reachLamp_14 (by decide) ?_
  refine lv_iadd hx hb d_M_reachLamp_16 ?_
  refine lv_iconst (v := 3) hx hb d_M_reachLamp_17 (by decide) ?_
  refine lv_iload_n hx hb d_M_reachLamp_18 rfl (lv_at hl 2 rfl) ?_
  refine lv_imul hx hb d_M_reachLamp_19 ?_
  refine lv_isub hx hb d_M_reachLamp_20 ?_
  exact zri E hK hP hD hS d_M_reachLamp_21
set_option maxHeartbeats 1000000 in
set_option maxRecDepth 100000 in
theorem c_M_reachRound (l : Launch) (dC : Nat → ClassId) (dI : Nat → Nat → Nat) (g1 g2 g3 g4 g5 g6 g7 : ClassId) (A : Nat → Prop) (aM m1 m2 m3 m4 m5 m6 m7 : Nat) (d : Nat → Int32) (n : Nat) (kd ht tk so lt : Nat → Int32) (sto : Int64) (ni ac bl : Int32) (i : Nat) (hi : i < 60) (σ : zS) (x : Int32) : zM l y_M_reachRound b_M_reachRound 3 (some (FieldType.int)) 2 43 [.ref aM, .int (nI i), .int x] (dC, dI) (t7 g1 g2 g3 g4 g5 g6 g7) A (wm g1 g2 g3 g4 g5 g6 g7 aM m1 m2 m3 m4 m5 m6 m7 d n kd ht tk (upd so i σ.1) lt sto ni ac bl σ.2) (wm g1 g2 g3 g4 g5 g6 g7 aM m1 m2 m3 m4 m5 m6 m7 d n kd ht tk (upd so i (rRound d (ht i) x σ).2.1) lt sto ni ac bl (rRound d (ht i) x σ).2.2) (some (.int (rRound d (ht i) x σ).1)) := by
  refine zM_of "CoastLampsModel" rfl (by decide) (Nat.le_of_ble_eq_true rfl) ?_
  intro p e s m below meth c ls E hP hK hD hS hl
  obtain ⟨hx, hb, hml, ho, hts, hr, hlk⟩ := id E
  have hl : lv_has ls 3 [(0, .ref aM), (1, .int (nI i)), (2, .int x)] := hl
  refine lv_aload_n hx hb d_M_reachRound_0 rfl (lv_at hl 0 rfl) ?_
  refine lv_bipush (v := 21) hx hb d_M_reachRound_1 (by decide) ?_
  refine zcV (As := [.int 21]) (rest := []) (ci := 11) E cy_M_begins kw_670 ks_9 kw_668 (c_M_begins l dC dI g1 g2 g3 g4 g5 g6 g7 A aM m1 m2 m3 m4 m5 m6 m7 d n kd ht tk (upd so i σ.1) lt sto ni ac bl σ.2 21) hK hP hD hS 0 rfl zC_M.1 rfl rfl hl.1 rfl (Nat.le_of_ble_eq_true rfl) ⟨Nat.le_of_ble_eq_true rfl, Nat.le_of_ble_eq_true rfl⟩ d_M_reachRound_3 ⟨Nat.le_refl _, Nat.le_refl _⟩ (fun H locs hP hD hS => ?_)
  have hP : va_P (dC, dI) classes (wm g1 g2 g3 g4 g5 g6 g7 aM m1 m2 m3 m4 m5 m6 m7 d n kd ht tk (upd so i (σ.1, tb 21 σ.2).1) lt sto ni ac bl (σ.1, tb 21 σ.2).2) H := hP
  have hD : va_D A (wm g1 g2 g3 g4 g5 g6 g7 aM m1 m2 m3 m4 m5 m6 m7 d n kd ht tk (upd so i (σ.1, tb 21 σ.2).1) lt sto ni ac bl (σ.1, tb 21 σ.2).2) := hD
  refine lv_aload_n hx hb d_M_reachRound_6 rfl (lv_at hl 0 rfl) ?_
  refine lv_iload_n hx hb d_M_reachRound_7 rfl (lv_at hl 1 rfl) ?_
  refine lv_iload_n hx hb d_M_reachRound_8 rfl (lv_at hl 2 rfl) ?_
  refine zcV (As := [.int (nI i), .int x]) (rest := []) (ci := 11) E cy_M_reachLamp kw_698 ks_16 kw_696 (c_M_reachLamp l dC dI g1 g2 g3 g4 g5 g6 g7 A aM m1 m2 m3 m4 m5 m6 m7 d n kd ht tk so lt sto ni ac bl i hi (σ.1, tb 21 σ.2) x) hK hP hD hS 0 rfl zC_M.1 rfl rfl hl.1 rfl (Nat.le_of_ble_eq_true rfl) ⟨Nat.le_of_ble_eq_true rfl, Nat.le_of_ble_eq_true rfl⟩ d_M_reachRound_9 ⟨Nat.le_refl _, Nat.le_refl _⟩ (fun H locs hP hD hS => ?_)
  have hP : va_P (dC, dI) classes (wm g1 g2 g3 g4 g5 g6 g7 aM m1 m2 m3 m4 m5 m6 m7 d n kd ht tk (upd so i ((rLamp (ht i) x (σ.1, tb 21 σ.2)).2).1) lt sto ni ac bl ((rLamp (ht i) x (σ.1, tb 21 σ.2)).2).2) H := hP
  have hD : va_D A (wm g1 g2 g3 g4 g5 g6 g7 aM m1 m2 m3 m4 m5 m6 m7 d n kd ht tk (upd so i ((rLamp (ht i) x (σ.1, tb 21 σ.2)).2).1) lt sto ni ac bl ((rLamp (ht i) x (σ.1, tb 21 σ.2)).2).2) := hD
  refine lv_aload_n hx hb d_M_reachRound_12 rfl (lv_at hl 0 rfl) ?_
  refine zget (ci := 11) (fs := [.ref m1, .int (nI n), .ref m2, .ref m3, .ref m4, .ref m5, .ref m6, .long sto, .int ni, .int ac, .int bl, .ref m7, .int (nI (((rLamp (ht i) x (σ.1, tb 21 σ.2)).2).2).2.1)]) E hK hP 0 rfl zC_M 0 (by decide) kw_590 (Or.inl rfl) rfl d_M_reachRound_13 ?_
  refine lv_iconst (v := 2) hx hb d_M_reachRound_16 (by decide) ?_
  refine va_iald hx hb hK hP 1 0 rfl rfl (by unfold vp_in; decide) d_M_reachRound_17 ?_
  rw [show (2 : Int32).toNatClampNeg = 2 from by decide]
  refine lv_iadd hx hb d_M_reachRound_18 ?_
  exact zri E hK hP hD hS d_M_reachRound_19
set_option maxHeartbeats 1000000 in
set_option maxRecDepth 100000 in
theorem c_M_reachTwin (l : Launch) (dC : Nat → ClassId) (dI : Nat → Nat → Nat) (g1 g2 g3 g4 g5 g6 g7 : ClassId) (A : Nat → Prop) (aM m1 m2 m3 m4 m5 m6 m7 : Nat) (d : Nat → Int32) (n : Nat) (kd ht tk so lt : Nat → Int32) (sto : Int64) (ni ac bl : Int32) (i : Nat) (hi : i < 60) (σ : zS) (x : Int32) : zM l y_M_reachTwin b_M_reachTwin 4 (some (FieldType.int)) 3 65 [.ref aM, .int (nI i), .int x] (dC, dI) (t7 g1 g2 g3 g4 g5 g6 g7) A (wm g1 g2 g3 g4 g5 g6 g7 aM m1 m2 m3 m4 m5 m6 m7 d n kd ht tk (upd so i σ.1) lt sto ni ac bl σ.2) (wm g1 g2 g3 g4 g5 g6 g7 aM m1 m2 m3 m4 m5 m6 m7 d n kd ht tk (upd so i (rTwin d (ht i) x σ).2.1) lt sto ni ac bl (rTwin d (ht i) x σ).2.2) (some (.int (rTwin d (ht i) x σ).1)) := by
  refine zM_of "CoastLampsModel" rfl (by decide) (Nat.le_of_ble_eq_true rfl) ?_
  intro p e s m below meth c ls E hP hK hD hS hl
  obtain ⟨hx, hb, hml, ho, hts, hr, hlk⟩ := id E
  have hl : lv_has ls 4 [(0, .ref aM), (1, .int (nI i)), (2, .int x)] := hl
  refine lv_aload_n hx hb d_M_reachTwin_0 rfl (lv_at hl 0 rfl) ?_
  refine lv_bipush (v := 31) hx hb d_M_reachTwin_1 (by decide) ?_
  refine zcV (As := [.int 31]) (rest := []) (ci := 11) E cy_M_begins kw_670 ks_9 kw_668 (c_M_begins l dC dI g1 g2 g3 g4 g5 g6 g7 A aM m1 m2 m3 m4 m5 m6 m7 d n kd ht tk (upd so i σ.1) lt sto ni ac bl σ.2 31) hK hP hD hS 0 rfl zC_M.1 rfl rfl hl.1 rfl (Nat.le_of_ble_eq_true rfl) ⟨Nat.le_of_ble_eq_true rfl, Nat.le_of_ble_eq_true rfl⟩ d_M_reachTwin_3 ⟨Nat.le_refl _, Nat.le_refl _⟩ (fun H locs hP hD hS => ?_)
  have hP : va_P (dC, dI) classes (wm g1 g2 g3 g4 g5 g6 g7 aM m1 m2 m3 m4 m5 m6 m7 d n kd ht tk (upd so i (σ.1, tb 31 σ.2).1) lt sto ni ac bl (σ.1, tb 31 σ.2).2) H := hP
  have hD : va_D A (wm g1 g2 g3 g4 g5 g6 g7 aM m1 m2 m3 m4 m5 m6 m7 d n kd ht tk (upd so i (σ.1, tb 31 σ.2).1) lt sto ni ac bl (σ.1, tb 31 σ.2).2) := hD
  refine lv_aload_n hx hb d_M_reachTwin_6 rfl (lv_at hl 0 rfl) ?_
  refine lv_iload_n hx hb d_M_reachTwin_7 rfl (lv_at hl 1 rfl) ?_
  refine lv_iload_n hx hb d_M_reachTwin_8 rfl (lv_at hl 2 rfl) ?_
  refine zcV (As := [.int (nI i), .int x]) (rest := []) (ci := 11) E cy_M_reachRound kw_702 ks_17 kw_700 (c_M_reachRound l dC dI g1 g2 g3 g4 g5 g6 g7 A aM m1 m2 m3 m4 m5 m6 m7 d n kd ht tk so lt sto ni ac bl i hi (σ.1, tb 31 σ.2) x) hK hP hD hS 0 rfl zC_M.1 rfl rfl hl.1 rfl (Nat.le_of_ble_eq_true rfl) ⟨Nat.le_of_ble_eq_true rfl, Nat.le_of_ble_eq_true rfl⟩ d_M_reachTwin_9 ⟨Nat.le_refl _, Nat.le_refl _⟩ (fun H locs hP hD hS => ?_)
  have hP : va_P (dC, dI) classes (wm g1 g2 g3 g4 g5 g6 g7 aM m1 m2 m3 m4 m5 m6 m7 d n kd ht tk (upd so i ((rRound d (ht i) x (σ.1, tb 31 σ.2)).2).1) lt sto ni ac bl ((rRound d (ht i) x (σ.1, tb 31 σ.2)).2).2) H := hP
  have hD : va_D A (wm g1 g2 g3 g4 g5 g6 g7 aM m1 m2 m3 m4 m5 m6 m7 d n kd ht tk (upd so i ((rRound d (ht i) x (σ.1, tb 31 σ.2)).2).1) lt sto ni ac bl ((rRound d (ht i) x (σ.1, tb 31 σ.2)).2).2) := hD
  refine lv_istore_n (lv' := [(3, .int ((rRound d (ht i) x (σ.1, tb 31 σ.2)).1)), (0, .ref aM), (1, .int (nI i)), (2, .int x)]) hx hb d_M_reachTwin_12 rfl hl (by decide) rfl (fun ls hl => ?_)
  refine lv_iload_n hx hb d_M_reachTwin_13 rfl (lv_at hl 0 rfl) ?_
  refine lv_aload_n hx hb d_M_reachTwin_14 rfl (lv_at hl 1 rfl) ?_
  refine lv_iload_n hx hb d_M_reachTwin_15 rfl (lv_at hl 2 rfl) ?_
  refine lv_iload_n hx hb d_M_reachTwin_16 rfl (lv_at hl 3 rfl) ?_
  refine lv_iconst (v := 1) hx hb d_M_reachTwin_17 (by decide) ?_
  refine lv_iadd hx hb d_M_reachTwin_18 ?_
  refine zcV (As := [.int (nI i), .int (x + 1)]) (rest := [.int ((rRound d (ht i) x (σ.1, tb 31 σ.2)).1)]) (ci := 11) E cy_M_reachRound kw_702 ks_17 kw_700 (c_M_reachRound l dC dI g1 g2 g3 g4 g5 g6 g7 A aM m1 m2 m3 m4 m5 m6 m7 d n kd ht tk so lt sto ni ac bl i hi ((rRound d (ht i) x (σ.1, tb 31 σ.2)).2) (x + 1)) hK hP hD hS 0 rfl zC_M.1 rfl rfl hl.1 rfl (Nat.le_of_ble_eq_true rfl) ⟨Nat.le_of_ble_eq_true rfl, Nat.le_of_ble_eq_true rfl⟩ d_M_reachTwin_19 ⟨Nat.le_refl _, Nat.le_refl _⟩ (fun H locs hP hD hS => ?_)
  have hP : va_P (dC, dI) classes (wm g1 g2 g3 g4 g5 g6 g7 aM m1 m2 m3 m4 m5 m6 m7 d n kd ht tk (upd so i ((rRound d (ht i) (x + 1) ((rRound d (ht i) x (σ.1, tb 31 σ.2)).2)).2).1) lt sto ni ac bl ((rRound d (ht i) (x + 1) ((rRound d (ht i) x (σ.1, tb 31 σ.2)).2)).2).2) H := hP
  have hD : va_D A (wm g1 g2 g3 g4 g5 g6 g7 aM m1 m2 m3 m4 m5 m6 m7 d n kd ht tk (upd so i ((rRound d (ht i) (x + 1) ((rRound d (ht i) x (σ.1, tb 31 σ.2)).2)).2).1) lt sto ni ac bl ((rRound d (ht i) (x + 1) ((rRound d (ht i) x (σ.1, tb 31 σ.2)).2)).2).2) := hD
  refine lv_iconst (v := 2) hx hb d_M_reachTwin_22 (by decide) ?_
  refine lv_idiv hx hb d_M_reachTwin_23 (by decide) ?_
  refine lv_iadd hx hb d_M_reachTwin_24 ?_
  exact zri E hK hP hD hS d_M_reachTwin_25
set_option maxHeartbeats 1000000 in
set_option maxRecDepth 100000 in
theorem c_M_reachDrum (l : Launch) (dC : Nat → ClassId) (dI : Nat → Nat → Nat) (g1 g2 g3 g4 g5 g6 g7 : ClassId) (A : Nat → Prop) (aM m1 m2 m3 m4 m5 m6 m7 : Nat) (d : Nat → Int32) (n : Nat) (kd ht tk so lt : Nat → Int32) (sto : Int64) (ni ac bl : Int32) (i : Nat) (hi : i < 60) (σ : zS) (x : Int32) : zM l y_M_reachDrum b_M_reachDrum 4 (some (FieldType.int)) 4 88 [.ref aM, .int (nI i), .int x] (dC, dI) (t7 g1 g2 g3 g4 g5 g6 g7) A (wm g1 g2 g3 g4 g5 g6 g7 aM m1 m2 m3 m4 m5 m6 m7 d n kd ht tk (upd so i σ.1) lt sto ni ac bl σ.2) (wm g1 g2 g3 g4 g5 g6 g7 aM m1 m2 m3 m4 m5 m6 m7 d n kd ht tk (upd so i (rDrum d (ht i) x σ).2.1) lt sto ni ac bl (rDrum d (ht i) x σ).2.2) (some (.int (rDrum d (ht i) x σ).1)) := by
  by_cases h1 : (rTwin d (ht i) x (σ.1, tb 41 σ.2)).1 < 20
  · have e9 : rDrum d (ht i) x σ = (20, (rTwin d (ht i) x (σ.1, tb 41 σ.2)).2) := by simp only [rDrum, if_pos h1]
    rw [e9]
    try dsimp only
    refine zM_of "CoastLampsModel" rfl (by decide) (Nat.le_of_ble_eq_true rfl) ?_
    intro p e s m below meth c ls E hP hK hD hS hl
    obtain ⟨hx, hb, hml, ho, hts, hr, hlk⟩ := id E
    have hl : lv_has ls 4 [(0, .ref aM), (1, .int (nI i)), (2, .int x)] := hl
    refine lv_aload_n hx hb d_M_reachDrum_0 rfl (lv_at hl 0 rfl) ?_
    refine lv_bipush (v := 41) hx hb d_M_reachDrum_1 (by decide) ?_
    refine zcV (As := [.int 41]) (rest := []) (ci := 11) E cy_M_begins kw_670 ks_9 kw_668 (c_M_begins l dC dI g1 g2 g3 g4 g5 g6 g7 A aM m1 m2 m3 m4 m5 m6 m7 d n kd ht tk (upd so i σ.1) lt sto ni ac bl σ.2 41) hK hP hD hS 0 rfl zC_M.1 rfl rfl hl.1 rfl (Nat.le_of_ble_eq_true rfl) ⟨Nat.le_of_ble_eq_true rfl, Nat.le_of_ble_eq_true rfl⟩ d_M_reachDrum_3 ⟨Nat.le_refl _, Nat.le_refl _⟩ (fun H locs hP hD hS => ?_)
    have hP : va_P (dC, dI) classes (wm g1 g2 g3 g4 g5 g6 g7 aM m1 m2 m3 m4 m5 m6 m7 d n kd ht tk (upd so i (σ.1, tb 41 σ.2).1) lt sto ni ac bl (σ.1, tb 41 σ.2).2) H := hP
    have hD : va_D A (wm g1 g2 g3 g4 g5 g6 g7 aM m1 m2 m3 m4 m5 m6 m7 d n kd ht tk (upd so i (σ.1, tb 41 σ.2).1) lt sto ni ac bl (σ.1, tb 41 σ.2).2) := hD
    refine lv_aload_n hx hb d_M_reachDrum_6 rfl (lv_at hl 0 rfl) ?_
    refine lv_iload_n hx hb d_M_reachDrum_7 rfl (lv_at hl 1 rfl) ?_
    refine lv_iload_n hx hb d_M_reachDrum_8 rfl (lv_at hl 2 rfl) ?_
    refine zcV (As := [.int (nI i), .int x]) (rest := []) (ci := 11) E cy_M_reachTwin kw_706 ks_18 kw_704 (c_M_reachTwin l dC dI g1 g2 g3 g4 g5 g6 g7 A aM m1 m2 m3 m4 m5 m6 m7 d n kd ht tk so lt sto ni ac bl i hi (σ.1, tb 41 σ.2) x) hK hP hD hS 0 rfl zC_M.1 rfl rfl hl.1 rfl (Nat.le_of_ble_eq_true rfl) ⟨Nat.le_of_ble_eq_true rfl, Nat.le_of_ble_eq_true rfl⟩ d_M_reachDrum_9 ⟨Nat.le_refl _, Nat.le_refl _⟩ (fun H locs hP hD hS => ?_)
    have hP : va_P (dC, dI) classes (wm g1 g2 g3 g4 g5 g6 g7 aM m1 m2 m3 m4 m5 m6 m7 d n kd ht tk (upd so i ((rTwin d (ht i) x (σ.1, tb 41 σ.2)).2).1) lt sto ni ac bl ((rTwin d (ht i) x (σ.1, tb 41 σ.2)).2).2) H := hP
    have hD : va_D A (wm g1 g2 g3 g4 g5 g6 g7 aM m1 m2 m3 m4 m5 m6 m7 d n kd ht tk (upd so i ((rTwin d (ht i) x (σ.1, tb 41 σ.2)).2).1) lt sto ni ac bl ((rTwin d (ht i) x (σ.1, tb 41 σ.2)).2).2) := hD
    refine lv_istore_n (lv' := [(3, .int ((rTwin d (ht i) x (σ.1, tb 41 σ.2)).1)), (0, .ref aM), (1, .int (nI i)), (2, .int x)]) hx hb d_M_reachDrum_12 rfl hl (by decide) rfl (fun ls hl => ?_)
    refine lv_iload_n hx hb d_M_reachDrum_13 rfl (lv_at hl 0 rfl) ?_
    refine lv_bipush (v := 20) hx hb d_M_reachDrum_14 (by decide) ?_
    refine lv_icmp_ge (tgt := 24) hx hb d_M_reachDrum_16 (by decide) (fun h9 => absurd h9 (Int32.not_le.mpr h1)) (fun _ => ?_)
    refine lv_bipush (v := 20) hx hb d_M_reachDrum_19 (by decide) ?_
    refine lv_goto (tgt := 25) hx hb d_M_reachDrum_21 (by decide) ?_
    exact zri E hK hP hD hS d_M_reachDrum_25
  · have e9 : rDrum d (ht i) x σ = ((rTwin d (ht i) x (σ.1, tb 41 σ.2)).1, (rTwin d (ht i) x (σ.1, tb 41 σ.2)).2) := by simp only [rDrum, if_neg h1]
    rw [e9]
    try dsimp only
    refine zM_of "CoastLampsModel" rfl (by decide) (Nat.le_of_ble_eq_true rfl) ?_
    intro p e s m below meth c ls E hP hK hD hS hl
    obtain ⟨hx, hb, hml, ho, hts, hr, hlk⟩ := id E
    have hl : lv_has ls 4 [(0, .ref aM), (1, .int (nI i)), (2, .int x)] := hl
    refine lv_aload_n hx hb d_M_reachDrum_0 rfl (lv_at hl 0 rfl) ?_
    refine lv_bipush (v := 41) hx hb d_M_reachDrum_1 (by decide) ?_
    refine zcV (As := [.int 41]) (rest := []) (ci := 11) E cy_M_begins kw_670 ks_9 kw_668 (c_M_begins l dC dI g1 g2 g3 g4 g5 g6 g7 A aM m1 m2 m3 m4 m5 m6 m7 d n kd ht tk (upd so i σ.1) lt sto ni ac bl σ.2 41) hK hP hD hS 0 rfl zC_M.1 rfl rfl hl.1 rfl (Nat.le_of_ble_eq_true rfl) ⟨Nat.le_of_ble_eq_true rfl, Nat.le_of_ble_eq_true rfl⟩ d_M_reachDrum_3 ⟨Nat.le_refl _, Nat.le_refl _⟩ (fun H locs hP hD hS => ?_)
    have hP : va_P (dC, dI) classes (wm g1 g2 g3 g4 g5 g6 g7 aM m1 m2 m3 m4 m5 m6 m7 d n kd ht tk (upd so i (σ.1, tb 41 σ.2).1) lt sto ni ac bl (σ.1, tb 41 σ.2).2) H := hP
    have hD : va_D A (wm g1 g2 g3 g4 g5 g6 g7 aM m1 m2 m3 m4 m5 m6 m7 d n kd ht tk (upd so i (σ.1, tb 41 σ.2).1) lt sto ni ac bl (σ.1, tb 41 σ.2).2) := hD
    refine lv_aload_n hx hb d_M_reachDrum_6 rfl (lv_at hl 0 rfl) ?_
    refine lv_iload_n hx hb d_M_reachDrum_7 rfl (lv_at hl 1 rfl) ?_
    refine lv_iload_n hx hb d_M_reachDrum_8 rfl (lv_at hl 2 rfl) ?_
    refine zcV (As := [.int (nI i), .int x]) (rest := []) (ci := 11) E cy_M_reachTwin kw_706 ks_18 kw_704 (c_M_reachTwin l dC dI g1 g2 g3 g4 g5 g6 g7 A aM m1 m2 m3 m4 m5 m6 m7 d n kd ht tk so lt sto ni ac bl i hi (σ.1, tb 41 σ.2) x) hK hP hD hS 0 rfl zC_M.1 rfl rfl hl.1 rfl (Nat.le_of_ble_eq_true rfl) ⟨Nat.le_of_ble_eq_true rfl, Nat.le_of_ble_eq_true rfl⟩ d_M_reachDrum_9 ⟨Nat.le_refl _, Nat.le_refl _⟩ (fun H locs hP hD hS => ?_)
    have hP : va_P (dC, dI) classes (wm g1 g2 g3 g4 g5 g6 g7 aM m1 m2 m3 m4 m5 m6 m7 d n kd ht tk (upd so i ((rTwin d (ht i) x (σ.1, tb 41 σ.2)).2).1) lt sto ni ac bl ((rTwin d (ht i) x (σ.1, tb 41 σ.2)).2).2) H := hP
    have hD : va_D A (wm g1 g2 g3 g4 g5 g6 g7 aM m1 m2 m3 m4 m5 m6 m7 d n kd ht tk (upd so i ((rTwin d (ht i) x (σ.1, tb 41 σ.2)).2).1) lt sto ni ac bl ((rTwin d (ht i) x (σ.1, tb 41 σ.2)).2).2) := hD
    refine lv_istore_n (lv' := [(3, .int ((rTwin d (ht i) x (σ.1, tb 41 σ.2)).1)), (0, .ref aM), (1, .int (nI i)), (2, .int x)]) hx hb d_M_reachDrum_12 rfl hl (by decide) rfl (fun ls hl => ?_)
    refine lv_iload_n hx hb d_M_reachDrum_13 rfl (lv_at hl 0 rfl) ?_
    refine lv_bipush (v := 20) hx hb d_M_reachDrum_14 (by decide) ?_
    refine lv_icmp_ge (tgt := 24) hx hb d_M_reachDrum_16 (by decide) (fun _ => ?_) (fun h9 => absurd (Int32.not_lt.mp h1) h9)
    refine lv_iload_n hx hb d_M_reachDrum_24 rfl (lv_at hl 0 rfl) ?_
    exact zri E hK hP hD hS d_M_reachDrum_25
set_option maxHeartbeats 1000000 in
set_option maxRecDepth 100000 in
theorem c_M_reachGas (l : Launch) (dC : Nat → ClassId) (dI : Nat → Nat → Nat) (g1 g2 g3 g4 g5 g6 g7 : ClassId) (A : Nat → Prop) (aM m1 m2 m3 m4 m5 m6 m7 : Nat) (d : Nat → Int32) (n : Nat) (kd ht tk so lt : Nat → Int32) (sto : Int64) (ni ac bl : Int32) (i : Nat) (hi : i < 60) (σ : zS) (x : Int32) : zM l y_M_reachGas b_M_reachGas 3 (some (FieldType.int)) 2 43 [.ref aM, .int (nI i), .int x] (dC, dI) (t7 g1 g2 g3 g4 g5 g6 g7) A (wm g1 g2 g3 g4 g5 g6 g7 aM m1 m2 m3 m4 m5 m6 m7 d n kd ht tk (upd so i σ.1) lt sto ni ac bl σ.2) (wm g1 g2 g3 g4 g5 g6 g7 aM m1 m2 m3 m4 m5 m6 m7 d n kd ht tk (upd so i (rGas (ht i) x σ).2.1) lt sto ni ac bl (rGas (ht i) x σ).2.2) (some (.int (rGas (ht i) x σ).1)) := by
  refine zM_of "CoastLampsModel" rfl (by decide) (Nat.le_of_ble_eq_true rfl) ?_
  intro p e s m below meth c ls E hP hK hD hS hl
  obtain ⟨hx, hb, hml, ho, hts, hr, hlk⟩ := id E
  have hl : lv_has ls 3 [(0, .ref aM), (1, .int (nI i)), (2, .int x)] := hl
  refine lv_aload_n hx hb d_M_reachGas_0 rfl (lv_at hl 0 rfl) ?_
  refine lv_bipush (v := 61) hx hb d_M_reachGas_1 (by decide) ?_
  refine zcV (As := [.int 61]) (rest := []) (ci := 11) E cy_M_begins kw_670 ks_9 kw_668 (c_M_begins l dC dI g1 g2 g3 g4 g5 g6 g7 A aM m1 m2 m3 m4 m5 m6 m7 d n kd ht tk (upd so i σ.1) lt sto ni ac bl σ.2 61) hK hP hD hS 0 rfl zC_M.1 rfl rfl hl.1 rfl (Nat.le_of_ble_eq_true rfl) ⟨Nat.le_of_ble_eq_true rfl, Nat.le_of_ble_eq_true rfl⟩ d_M_reachGas_3 ⟨Nat.le_refl _, Nat.le_refl _⟩ (fun H locs hP hD hS => ?_)
  have hP : va_P (dC, dI) classes (wm g1 g2 g3 g4 g5 g6 g7 aM m1 m2 m3 m4 m5 m6 m7 d n kd ht tk (upd so i (σ.1, tb 61 σ.2).1) lt sto ni ac bl (σ.1, tb 61 σ.2).2) H := hP
  have hD : va_D A (wm g1 g2 g3 g4 g5 g6 g7 aM m1 m2 m3 m4 m5 m6 m7 d n kd ht tk (upd so i (σ.1, tb 61 σ.2).1) lt sto ni ac bl (σ.1, tb 61 σ.2).2) := hD
  refine lv_aload_n hx hb d_M_reachGas_6 rfl (lv_at hl 0 rfl) ?_
  refine lv_iload_n hx hb d_M_reachGas_7 rfl (lv_at hl 1 rfl) ?_
  refine lv_iload_n hx hb d_M_reachGas_8 rfl (lv_at hl 2 rfl) ?_
  refine zcV (As := [.int (nI i), .int x]) (rest := []) (ci := 11) E cy_M_reachLamp kw_698 ks_16 kw_696 (c_M_reachLamp l dC dI g1 g2 g3 g4 g5 g6 g7 A aM m1 m2 m3 m4 m5 m6 m7 d n kd ht tk so lt sto ni ac bl i hi (σ.1, tb 61 σ.2) x) hK hP hD hS 0 rfl zC_M.1 rfl rfl hl.1 rfl (Nat.le_of_ble_eq_true rfl) ⟨Nat.le_of_ble_eq_true rfl, Nat.le_of_ble_eq_true rfl⟩ d_M_reachGas_9 ⟨Nat.le_refl _, Nat.le_refl _⟩ (fun H locs hP hD hS => ?_)
  have hP : va_P (dC, dI) classes (wm g1 g2 g3 g4 g5 g6 g7 aM m1 m2 m3 m4 m5 m6 m7 d n kd ht tk (upd so i ((rLamp (ht i) x (σ.1, tb 61 σ.2)).2).1) lt sto ni ac bl ((rLamp (ht i) x (σ.1, tb 61 σ.2)).2).2) H := hP
  have hD : va_D A (wm g1 g2 g3 g4 g5 g6 g7 aM m1 m2 m3 m4 m5 m6 m7 d n kd ht tk (upd so i ((rLamp (ht i) x (σ.1, tb 61 σ.2)).2).1) lt sto ni ac bl ((rLamp (ht i) x (σ.1, tb 61 σ.2)).2).2) := hD
  refine lv_aload_n hx hb d_M_reachGas_12 rfl (lv_at hl 0 rfl) ?_
  refine zget (ci := 11) (fs := [.ref m1, .int (nI n), .ref m2, .ref m3, .ref m4, .ref m5, .ref m6, .long sto, .int ni, .int ac, .int bl, .ref m7, .int (nI (((rLamp (ht i) x (σ.1, tb 61 σ.2)).2).2).2.1)]) E hK hP 0 rfl zC_M 5 (by decide) kw_595 (Or.inl rfl) rfl d_M_reachGas_13 ?_
  refine lv_iload_n hx hb d_M_reachGas_16 rfl (lv_at hl 1 rfl) ?_
  refine va_iald hx hb hK hP 5 4 rfl rfl (vp_in_nI hi (by decide)) d_M_reachGas_17 ?_
  rw [nI_clamp (i31 hi)]
  rw [pk_us]
  refine lv_bipush (v := 10) hx hb d_M_reachGas_18 (by decide) ?_
  refine lv_idiv hx hb d_M_reachGas_20 (by decide) ?_
  refine lv_isub hx hb d_M_reachGas_21 ?_
  exact zri E hK hP hD hS d_M_reachGas_22
set_option maxHeartbeats 1000000 in
set_option maxRecDepth 100000 in
theorem c_M_reachBuoy (l : Launch) (dC : Nat → ClassId) (dI : Nat → Nat → Nat) (g1 g2 g3 g4 g5 g6 g7 : ClassId) (A : Nat → Prop) (aM m1 m2 m3 m4 m5 m6 m7 : Nat) (d : Nat → Int32) (n : Nat) (kd ht tk so lt : Nat → Int32) (sto : Int64) (ni ac bl : Int32) (i : Nat) (hi : i < 60) (σ : zS) (x : Int32) : zM l y_M_reachBuoy b_M_reachBuoy 3 (some (FieldType.int)) 3 65 [.ref aM, .int (nI i), .int x] (dC, dI) (t7 g1 g2 g3 g4 g5 g6 g7) A (wm g1 g2 g3 g4 g5 g6 g7 aM m1 m2 m3 m4 m5 m6 m7 d n kd ht tk (upd so i σ.1) lt sto ni ac bl σ.2) (wm g1 g2 g3 g4 g5 g6 g7 aM m1 m2 m3 m4 m5 m6 m7 d n kd ht tk (upd so i (rBuoy (ht i) x σ).2.1) lt sto ni ac bl (rBuoy (ht i) x σ).2.2) (some (.int (rBuoy (ht i) x σ).1)) := by
  refine zM_of "CoastLampsModel" rfl (by decide) (Nat.le_of_ble_eq_true rfl) ?_
  intro p e s m below meth c ls E hP hK hD hS hl
  obtain ⟨hx, hb, hml, ho, hts, hr, hlk⟩ := id E
  have hl : lv_has ls 3 [(0, .ref aM), (1, .int (nI i)), (2, .int x)] := hl
  refine lv_aload_n hx hb d_M_reachBuoy_0 rfl (lv_at hl 0 rfl) ?_
  refine lv_bipush (v := 81) hx hb d_M_reachBuoy_1 (by decide) ?_
  refine zcV (As := [.int 81]) (rest := []) (ci := 11) E cy_M_begins kw_670 ks_9 kw_668 (c_M_begins l dC dI g1 g2 g3 g4 g5 g6 g7 A aM m1 m2 m3 m4 m5 m6 m7 d n kd ht tk (upd so i σ.1) lt sto ni ac bl σ.2 81) hK hP hD hS 0 rfl zC_M.1 rfl rfl hl.1 rfl (Nat.le_of_ble_eq_true rfl) ⟨Nat.le_of_ble_eq_true rfl, Nat.le_of_ble_eq_true rfl⟩ d_M_reachBuoy_3 ⟨Nat.le_refl _, Nat.le_refl _⟩ (fun H locs hP hD hS => ?_)
  have hP : va_P (dC, dI) classes (wm g1 g2 g3 g4 g5 g6 g7 aM m1 m2 m3 m4 m5 m6 m7 d n kd ht tk (upd so i (σ.1, tb 81 σ.2).1) lt sto ni ac bl (σ.1, tb 81 σ.2).2) H := hP
  have hD : va_D A (wm g1 g2 g3 g4 g5 g6 g7 aM m1 m2 m3 m4 m5 m6 m7 d n kd ht tk (upd so i (σ.1, tb 81 σ.2).1) lt sto ni ac bl (σ.1, tb 81 σ.2).2) := hD
  refine lv_aload_n hx hb d_M_reachBuoy_6 rfl (lv_at hl 0 rfl) ?_
  refine lv_iload_n hx hb d_M_reachBuoy_7 rfl (lv_at hl 1 rfl) ?_
  refine lv_iload_n hx hb d_M_reachBuoy_8 rfl (lv_at hl 2 rfl) ?_
  refine zcV (As := [.int (nI i), .int x]) (rest := []) (ci := 11) E cy_M_reachGas kw_714 ks_20 kw_712 (c_M_reachGas l dC dI g1 g2 g3 g4 g5 g6 g7 A aM m1 m2 m3 m4 m5 m6 m7 d n kd ht tk so lt sto ni ac bl i hi (σ.1, tb 81 σ.2) x) hK hP hD hS 0 rfl zC_M.1 rfl rfl hl.1 rfl (Nat.le_of_ble_eq_true rfl) ⟨Nat.le_of_ble_eq_true rfl, Nat.le_of_ble_eq_true rfl⟩ d_M_reachBuoy_9 ⟨Nat.le_refl _, Nat.le_refl _⟩ (fun H locs hP hD hS => ?_)
  have hP : va_P (dC, dI) classes (wm g1 g2 g3 g4 g5 g6 g7 aM m1 m2 m3 m4 m5 m6 m7 d n kd ht tk (upd so i ((rGas (ht i) x (σ.1, tb 81 σ.2)).2).1) lt sto ni ac bl ((rGas (ht i) x (σ.1, tb 81 σ.2)).2).2) H := hP
  have hD : va_D A (wm g1 g2 g3 g4 g5 g6 g7 aM m1 m2 m3 m4 m5 m6 m7 d n kd ht tk (upd so i ((rGas (ht i) x (σ.1, tb 81 σ.2)).2).1) lt sto ni ac bl ((rGas (ht i) x (σ.1, tb 81 σ.2)).2).2) := hD
  refine lv_iconst (v := 2) hx hb d_M_reachBuoy_12 (by decide) ?_
  refine lv_idiv hx hb d_M_reachBuoy_13 (by decide) ?_
  exact zri E hK hP hD hS d_M_reachBuoy_14
set_option maxHeartbeats 1000000 in
set_option maxRecDepth 100000 in
theorem c_M_flashLamp (l : Launch) (dC : Nat → ClassId) (dI : Nat → Nat → Nat) (g1 g2 g3 g4 g5 g6 g7 : ClassId) (A : Nat → Prop) (aM m1 m2 m3 m4 m5 m6 m7 : Nat) (d : Nat → Int32) (n : Nat) (kd ht tk so lt : Nat → Int32) (sto : Int64) (ni ac bl : Int32) (i : Nat) (hi : i < 60) (σ : zS) : zM l y_M_flashLamp b_M_flashLamp 1 (some (FieldType.int)) 1 21 [.ref aM] (dC, dI) (t7 g1 g2 g3 g4 g5 g6 g7) A (wm g1 g2 g3 g4 g5 g6 g7 aM m1 m2 m3 m4 m5 m6 m7 d n kd ht tk (upd so i σ.1) lt sto ni ac bl σ.2) (wm g1 g2 g3 g4 g5 g6 g7 aM m1 m2 m3 m4 m5 m6 m7 d n kd ht tk (upd so i (fLamp σ).2.1) lt sto ni ac bl (fLamp σ).2.2) (some (.int (fLamp σ).1)) := by
  refine zM_of "CoastLampsModel" rfl (by decide) (Nat.le_of_ble_eq_true rfl) ?_
  intro p e s m below meth c ls E hP hK hD hS hl
  obtain ⟨hx, hb, hml, ho, hts, hr, hlk⟩ := id E
  have hl : lv_has ls 1 [(0, .ref aM)] := hl
  refine lv_aload_n hx hb d_M_flashLamp_0 rfl (lv_at hl 0 rfl) ?_
  refine lv_iconst (v := 2) hx hb d_M_flashLamp_1 (by decide) ?_
  refine zcV (As := [.int 2]) (rest := []) (ci := 11) E cy_M_begins kw_670 ks_9 kw_668 (c_M_begins l dC dI g1 g2 g3 g4 g5 g6 g7 A aM m1 m2 m3 m4 m5 m6 m7 d n kd ht tk (upd so i σ.1) lt sto ni ac bl σ.2 2) hK hP hD hS 0 rfl zC_M.1 rfl rfl hl.1 rfl (Nat.le_of_ble_eq_true rfl) ⟨Nat.le_of_ble_eq_true rfl, Nat.le_of_ble_eq_true rfl⟩ d_M_flashLamp_2 ⟨Nat.le_refl _, Nat.le_refl _⟩ (fun H locs hP hD hS => ?_)
  have hP : va_P (dC, dI) classes (wm g1 g2 g3 g4 g5 g6 g7 aM m1 m2 m3 m4 m5 m6 m7 d n kd ht tk (upd so i (σ.1, tb 2 σ.2).1) lt sto ni ac bl (σ.1, tb 2 σ.2).2) H := hP
  have hD : va_D A (wm g1 g2 g3 g4 g5 g6 g7 aM m1 m2 m3 m4 m5 m6 m7 d n kd ht tk (upd so i (σ.1, tb 2 σ.2).1) lt sto ni ac bl (σ.1, tb 2 σ.2).2) := hD
  refine lv_bipush (v := 100) hx hb d_M_flashLamp_5 (by decide) ?_
  exact zri E hK hP hD hS d_M_flashLamp_7
set_option maxHeartbeats 1000000 in
set_option maxRecDepth 100000 in
theorem c_M_flashTwin (l : Launch) (dC : Nat → ClassId) (dI : Nat → Nat → Nat) (g1 g2 g3 g4 g5 g6 g7 : ClassId) (A : Nat → Prop) (aM m1 m2 m3 m4 m5 m6 m7 : Nat) (d : Nat → Int32) (n : Nat) (kd ht tk so lt : Nat → Int32) (sto : Int64) (ni ac bl : Int32) (i : Nat) (hi : i < 60) (σ : zS) (x : Int32) : zM l y_M_flashTwin b_M_flashTwin 2 (some (FieldType.int)) 2 41 [.ref aM, .int x] (dC, dI) (t7 g1 g2 g3 g4 g5 g6 g7) A (wm g1 g2 g3 g4 g5 g6 g7 aM m1 m2 m3 m4 m5 m6 m7 d n kd ht tk (upd so i σ.1) lt sto ni ac bl σ.2) (wm g1 g2 g3 g4 g5 g6 g7 aM m1 m2 m3 m4 m5 m6 m7 d n kd ht tk (upd so i (fTwin x σ).2.1) lt sto ni ac bl (fTwin x σ).2.2) (some (.int (fTwin x σ).1)) := by
  by_cases h1 : x &&& 3 = 0
  · have e9 : fTwin x σ = (0, (σ.1, tb 32 σ.2)) := by simp only [fTwin, if_pos h1]
    rw [e9]
    try dsimp only
    refine zM_of "CoastLampsModel" rfl (by decide) (Nat.le_of_ble_eq_true rfl) ?_
    intro p e s m below meth c ls E hP hK hD hS hl
    obtain ⟨hx, hb, hml, ho, hts, hr, hlk⟩ := id E
    have hl : lv_has ls 2 [(0, .ref aM), (1, .int x)] := hl
    refine lv_aload_n hx hb d_M_flashTwin_0 rfl (lv_at hl 0 rfl) ?_
    refine lv_bipush (v := 32) hx hb d_M_flashTwin_1 (by decide) ?_
    refine zcV (As := [.int 32]) (rest := []) (ci := 11) E cy_M_begins kw_670 ks_9 kw_668 (c_M_begins l dC dI g1 g2 g3 g4 g5 g6 g7 A aM m1 m2 m3 m4 m5 m6 m7 d n kd ht tk (upd so i σ.1) lt sto ni ac bl σ.2 32) hK hP hD hS 0 rfl zC_M.1 rfl rfl hl.1 rfl (Nat.le_of_ble_eq_true rfl) ⟨Nat.le_of_ble_eq_true rfl, Nat.le_of_ble_eq_true rfl⟩ d_M_flashTwin_3 ⟨Nat.le_refl _, Nat.le_refl _⟩ (fun H locs hP hD hS => ?_)
    have hP : va_P (dC, dI) classes (wm g1 g2 g3 g4 g5 g6 g7 aM m1 m2 m3 m4 m5 m6 m7 d n kd ht tk (upd so i (σ.1, tb 32 σ.2).1) lt sto ni ac bl (σ.1, tb 32 σ.2).2) H := hP
    have hD : va_D A (wm g1 g2 g3 g4 g5 g6 g7 aM m1 m2 m3 m4 m5 m6 m7 d n kd ht tk (upd so i (σ.1, tb 32 σ.2).1) lt sto ni ac bl (σ.1, tb 32 σ.2).2) := hD
    refine lv_iload_n hx hb d_M_flashTwin_6 rfl (lv_at hl 1 rfl) ?_
    refine lv_iconst (v := 3) hx hb d_M_flashTwin_7 (by decide) ?_
    refine lv_iand hx hb d_M_flashTwin_8 ?_
    refine lv_if_ne (tgt := 16) hx hb d_M_flashTwin_9 (by decide) (fun h9 => absurd (h1) h9) (fun _ => ?_)
    refine lv_iconst (v := 0) hx hb d_M_flashTwin_12 (by decide) ?_
    refine lv_goto (tgt := 20) hx hb d_M_flashTwin_13 (by decide) ?_
    exact zri E hK hP hD hS d_M_flashTwin_20
  · have e9 : fTwin x σ = fLamp (σ.1, tb 32 σ.2) := by simp only [fTwin, if_neg h1]
    rw [e9]
    try dsimp only
    refine zM_of "CoastLampsModel" rfl (by decide) (Nat.le_of_ble_eq_true rfl) ?_
    intro p e s m below meth c ls E hP hK hD hS hl
    obtain ⟨hx, hb, hml, ho, hts, hr, hlk⟩ := id E
    have hl : lv_has ls 2 [(0, .ref aM), (1, .int x)] := hl
    refine lv_aload_n hx hb d_M_flashTwin_0 rfl (lv_at hl 0 rfl) ?_
    refine lv_bipush (v := 32) hx hb d_M_flashTwin_1 (by decide) ?_
    refine zcV (As := [.int 32]) (rest := []) (ci := 11) E cy_M_begins kw_670 ks_9 kw_668 (c_M_begins l dC dI g1 g2 g3 g4 g5 g6 g7 A aM m1 m2 m3 m4 m5 m6 m7 d n kd ht tk (upd so i σ.1) lt sto ni ac bl σ.2 32) hK hP hD hS 0 rfl zC_M.1 rfl rfl hl.1 rfl (Nat.le_of_ble_eq_true rfl) ⟨Nat.le_of_ble_eq_true rfl, Nat.le_of_ble_eq_true rfl⟩ d_M_flashTwin_3 ⟨Nat.le_refl _, Nat.le_refl _⟩ (fun H locs hP hD hS => ?_)
    have hP : va_P (dC, dI) classes (wm g1 g2 g3 g4 g5 g6 g7 aM m1 m2 m3 m4 m5 m6 m7 d n kd ht tk (upd so i (σ.1, tb 32 σ.2).1) lt sto ni ac bl (σ.1, tb 32 σ.2).2) H := hP
    have hD : va_D A (wm g1 g2 g3 g4 g5 g6 g7 aM m1 m2 m3 m4 m5 m6 m7 d n kd ht tk (upd so i (σ.1, tb 32 σ.2).1) lt sto ni ac bl (σ.1, tb 32 σ.2).2) := hD
    refine lv_iload_n hx hb d_M_flashTwin_6 rfl (lv_at hl 1 rfl) ?_
    refine lv_iconst (v := 3) hx hb d_M_flashTwin_7 (by decide) ?_
    refine lv_iand hx hb d_M_flashTwin_8 ?_
    refine lv_if_ne (tgt := 16) hx hb d_M_flashTwin_9 (by decide) (fun _ => ?_) (fun h9 => absurd h9 (h1))
    refine lv_aload_n hx hb d_M_flashTwin_16 rfl (lv_at hl 0 rfl) ?_
    refine zcV (As := []) (rest := []) (ci := 11) E cy_M_flashLamp kw_730 ks_24 kw_728 (c_M_flashLamp l dC dI g1 g2 g3 g4 g5 g6 g7 A aM m1 m2 m3 m4 m5 m6 m7 d n kd ht tk so lt sto ni ac bl i hi (σ.1, tb 32 σ.2)) hK hP hD hS 0 rfl zC_M.1 rfl rfl hl.1 rfl (Nat.le_of_ble_eq_true rfl) ⟨Nat.le_of_ble_eq_true rfl, Nat.le_of_ble_eq_true rfl⟩ d_M_flashTwin_17 ⟨Nat.le_refl _, Nat.le_refl _⟩ (fun H locs hP hD hS => ?_)
    have hP : va_P (dC, dI) classes (wm g1 g2 g3 g4 g5 g6 g7 aM m1 m2 m3 m4 m5 m6 m7 d n kd ht tk (upd so i ((fLamp (σ.1, tb 32 σ.2)).2).1) lt sto ni ac bl ((fLamp (σ.1, tb 32 σ.2)).2).2) H := hP
    have hD : va_D A (wm g1 g2 g3 g4 g5 g6 g7 aM m1 m2 m3 m4 m5 m6 m7 d n kd ht tk (upd so i ((fLamp (σ.1, tb 32 σ.2)).2).1) lt sto ni ac bl ((fLamp (σ.1, tb 32 σ.2)).2).2) := hD
    exact zri E hK hP hD hS d_M_flashTwin_20
set_option maxHeartbeats 1000000 in
set_option maxRecDepth 100000 in
theorem c_M_flashSwing (l : Launch) (dC : Nat → ClassId) (dI : Nat → Nat → Nat) (g1 g2 g3 g4 g5 g6 g7 : ClassId) (A : Nat → Prop) (aM m1 m2 m3 m4 m5 m6 m7 : Nat) (d : Nat → Int32) (n : Nat) (kd ht tk so lt : Nat → Int32) (sto : Int64) (ni ac bl : Int32) (i : Nat) (hi : i < 60) (σ : zS) (x : Int32) : zM l y_M_flashSwing b_M_flashSwing 2 (some (FieldType.int)) 3 62 [.ref aM, .int x] (dC, dI) (t7 g1 g2 g3 g4 g5 g6 g7) A (wm g1 g2 g3 g4 g5 g6 g7 aM m1 m2 m3 m4 m5 m6 m7 d n kd ht tk (upd so i σ.1) lt sto ni ac bl σ.2) (wm g1 g2 g3 g4 g5 g6 g7 aM m1 m2 m3 m4 m5 m6 m7 d n kd ht tk (upd so i (fSwing x σ).2.1) lt sto ni ac bl (fSwing x σ).2.2) (some (.int (fSwing x σ).1)) := by
  refine zM_of "CoastLampsModel" rfl (by decide) (Nat.le_of_ble_eq_true rfl) ?_
  intro p e s m below meth c ls E hP hK hD hS hl
  obtain ⟨hx, hb, hml, ho, hts, hr, hlk⟩ := id E
  have hl : lv_has ls 2 [(0, .ref aM), (1, .int x)] := hl
  refine lv_aload_n hx hb d_M_flashSwing_0 rfl (lv_at hl 0 rfl) ?_
  refine lv_bipush (v := 52) hx hb d_M_flashSwing_1 (by decide) ?_
  refine zcV (As := [.int 52]) (rest := []) (ci := 11) E cy_M_begins kw_670 ks_9 kw_668 (c_M_begins l dC dI g1 g2 g3 g4 g5 g6 g7 A aM m1 m2 m3 m4 m5 m6 m7 d n kd ht tk (upd so i σ.1) lt sto ni ac bl σ.2 52) hK hP hD hS 0 rfl zC_M.1 rfl rfl hl.1 rfl (Nat.le_of_ble_eq_true rfl) ⟨Nat.le_of_ble_eq_true rfl, Nat.le_of_ble_eq_true rfl⟩ d_M_flashSwing_3 ⟨Nat.le_refl _, Nat.le_refl _⟩ (fun H locs hP hD hS => ?_)
  have hP : va_P (dC, dI) classes (wm g1 g2 g3 g4 g5 g6 g7 aM m1 m2 m3 m4 m5 m6 m7 d n kd ht tk (upd so i (σ.1, tb 52 σ.2).1) lt sto ni ac bl (σ.1, tb 52 σ.2).2) H := hP
  have hD : va_D A (wm g1 g2 g3 g4 g5 g6 g7 aM m1 m2 m3 m4 m5 m6 m7 d n kd ht tk (upd so i (σ.1, tb 52 σ.2).1) lt sto ni ac bl (σ.1, tb 52 σ.2).2) := hD
  refine lv_aload_n hx hb d_M_flashSwing_6 rfl (lv_at hl 0 rfl) ?_
  refine lv_iload_n hx hb d_M_flashSwing_7 rfl (lv_at hl 1 rfl) ?_
  refine lv_iconst (v := 3) hx hb d_M_flashSwing_8 (by decide) ?_
  refine lv_idiv hx hb d_M_flashSwing_9 (by decide) ?_
  refine zcV (As := [.int (x / 3)]) (rest := []) (ci := 11) E cy_M_flashTwin kw_726 ks_23 kw_724 (c_M_flashTwin l dC dI g1 g2 g3 g4 g5 g6 g7 A aM m1 m2 m3 m4 m5 m6 m7 d n kd ht tk so lt sto ni ac bl i hi (σ.1, tb 52 σ.2) (x / 3)) hK hP hD hS 0 rfl zC_M.1 rfl rfl hl.1 rfl (Nat.le_of_ble_eq_true rfl) ⟨Nat.le_of_ble_eq_true rfl, Nat.le_of_ble_eq_true rfl⟩ d_M_flashSwing_10 ⟨Nat.le_refl _, Nat.le_refl _⟩ (fun H locs hP hD hS => ?_)
  have hP : va_P (dC, dI) classes (wm g1 g2 g3 g4 g5 g6 g7 aM m1 m2 m3 m4 m5 m6 m7 d n kd ht tk (upd so i ((fTwin (x / 3) (σ.1, tb 52 σ.2)).2).1) lt sto ni ac bl ((fTwin (x / 3) (σ.1, tb 52 σ.2)).2).2) H := hP
  have hD : va_D A (wm g1 g2 g3 g4 g5 g6 g7 aM m1 m2 m3 m4 m5 m6 m7 d n kd ht tk (upd so i ((fTwin (x / 3) (σ.1, tb 52 σ.2)).2).1) lt sto ni ac bl ((fTwin (x / 3) (σ.1, tb 52 σ.2)).2).2) := hD
  exact zri E hK hP hD hS d_M_flashSwing_13
set_option maxHeartbeats 1000000 in
set_option maxRecDepth 100000 in
theorem c_M_flashFlare (l : Launch) (dC : Nat → ClassId) (dI : Nat → Nat → Nat) (g1 g2 g3 g4 g5 g6 g7 : ClassId) (A : Nat → Prop) (aM m1 m2 m3 m4 m5 m6 m7 : Nat) (d : Nat → Int32) (n : Nat) (kd ht tk so lt : Nat → Int32) (sto : Int64) (ni ac bl : Int32) (i : Nat) (hi : i < 60) (σ : zS) (x : Int32) : zM l y_M_flashFlare b_M_flashFlare 2 (some (FieldType.int)) 2 41 [.ref aM, .int x] (dC, dI) (t7 g1 g2 g3 g4 g5 g6 g7) A (wm g1 g2 g3 g4 g5 g6 g7 aM m1 m2 m3 m4 m5 m6 m7 d n kd ht tk (upd so i σ.1) lt sto ni ac bl σ.2) (wm g1 g2 g3 g4 g5 g6 g7 aM m1 m2 m3 m4 m5 m6 m7 d n kd ht tk (upd so i (fFlare x σ).2.1) lt sto ni ac bl (fFlare x σ).2.2) (some (.int (fFlare x σ).1)) := by
  by_cases h1 : x &&& 1 = 0
  · have e9 : fFlare x σ = fLamp (σ.1, tb 72 σ.2) := by simp only [fFlare, if_pos h1]
    rw [e9]
    try dsimp only
    refine zM_of "CoastLampsModel" rfl (by decide) (Nat.le_of_ble_eq_true rfl) ?_
    intro p e s m below meth c ls E hP hK hD hS hl
    obtain ⟨hx, hb, hml, ho, hts, hr, hlk⟩ := id E
    have hl : lv_has ls 2 [(0, .ref aM), (1, .int x)] := hl
    refine lv_aload_n hx hb d_M_flashFlare_0 rfl (lv_at hl 0 rfl) ?_
    refine lv_bipush (v := 72) hx hb d_M_flashFlare_1 (by decide) ?_
    refine zcV (As := [.int 72]) (rest := []) (ci := 11) E cy_M_begins kw_670 ks_9 kw_668 (c_M_begins l dC dI g1 g2 g3 g4 g5 g6 g7 A aM m1 m2 m3 m4 m5 m6 m7 d n kd ht tk (upd so i σ.1) lt sto ni ac bl σ.2 72) hK hP hD hS 0 rfl zC_M.1 rfl rfl hl.1 rfl (Nat.le_of_ble_eq_true rfl) ⟨Nat.le_of_ble_eq_true rfl, Nat.le_of_ble_eq_true rfl⟩ d_M_flashFlare_3 ⟨Nat.le_refl _, Nat.le_refl _⟩ (fun H locs hP hD hS => ?_)
    have hP : va_P (dC, dI) classes (wm g1 g2 g3 g4 g5 g6 g7 aM m1 m2 m3 m4 m5 m6 m7 d n kd ht tk (upd so i (σ.1, tb 72 σ.2).1) lt sto ni ac bl (σ.1, tb 72 σ.2).2) H := hP
    have hD : va_D A (wm g1 g2 g3 g4 g5 g6 g7 aM m1 m2 m3 m4 m5 m6 m7 d n kd ht tk (upd so i (σ.1, tb 72 σ.2).1) lt sto ni ac bl (σ.1, tb 72 σ.2).2) := hD
    refine lv_iload_n hx hb d_M_flashFlare_6 rfl (lv_at hl 1 rfl) ?_
    refine lv_iconst (v := 1) hx hb d_M_flashFlare_7 (by decide) ?_
    refine lv_iand hx hb d_M_flashFlare_8 ?_
    refine lv_if_ne (tgt := 19) hx hb d_M_flashFlare_9 (by decide) (fun h9 => absurd (h1) h9) (fun _ => ?_)
    refine lv_aload_n hx hb d_M_flashFlare_12 rfl (lv_at hl 0 rfl) ?_
    refine zcV (As := []) (rest := []) (ci := 11) E cy_M_flashLamp kw_730 ks_24 kw_728 (c_M_flashLamp l dC dI g1 g2 g3 g4 g5 g6 g7 A aM m1 m2 m3 m4 m5 m6 m7 d n kd ht tk so lt sto ni ac bl i hi (σ.1, tb 72 σ.2)) hK hP hD hS 0 rfl zC_M.1 rfl rfl hl.1 rfl (Nat.le_of_ble_eq_true rfl) ⟨Nat.le_of_ble_eq_true rfl, Nat.le_of_ble_eq_true rfl⟩ d_M_flashFlare_13 ⟨Nat.le_refl _, Nat.le_refl _⟩ (fun H locs hP hD hS => ?_)
    have hP : va_P (dC, dI) classes (wm g1 g2 g3 g4 g5 g6 g7 aM m1 m2 m3 m4 m5 m6 m7 d n kd ht tk (upd so i ((fLamp (σ.1, tb 72 σ.2)).2).1) lt sto ni ac bl ((fLamp (σ.1, tb 72 σ.2)).2).2) H := hP
    have hD : va_D A (wm g1 g2 g3 g4 g5 g6 g7 aM m1 m2 m3 m4 m5 m6 m7 d n kd ht tk (upd so i ((fLamp (σ.1, tb 72 σ.2)).2).1) lt sto ni ac bl ((fLamp (σ.1, tb 72 σ.2)).2).2) := hD
    refine lv_goto (tgt := 20) hx hb d_M_flashFlare_16 (by decide) ?_
    exact zri E hK hP hD hS d_M_flashFlare_20
  · have e9 : fFlare x σ = (0, (σ.1, tb 72 σ.2)) := by simp only [fFlare, if_neg h1]
    rw [e9]
    try dsimp only
    refine zM_of "CoastLampsModel" rfl (by decide) (Nat.le_of_ble_eq_true rfl) ?_
    intro p e s m below meth c ls E hP hK hD hS hl
    obtain ⟨hx, hb, hml, ho, hts, hr, hlk⟩ := id E
    have hl : lv_has ls 2 [(0, .ref aM), (1, .int x)] := hl
    refine lv_aload_n hx hb d_M_flashFlare_0 rfl (lv_at hl 0 rfl) ?_
    refine lv_bipush (v := 72) hx hb d_M_flashFlare_1 (by decide) ?_
    refine zcV (As := [.int 72]) (rest := []) (ci := 11) E cy_M_begins kw_670 ks_9 kw_668 (c_M_begins l dC dI g1 g2 g3 g4 g5 g6 g7 A aM m1 m2 m3 m4 m5 m6 m7 d n kd ht tk (upd so i σ.1) lt sto ni ac bl σ.2 72) hK hP hD hS 0 rfl zC_M.1 rfl rfl hl.1 rfl (Nat.le_of_ble_eq_true rfl) ⟨Nat.le_of_ble_eq_true rfl, Nat.le_of_ble_eq_true rfl⟩ d_M_flashFlare_3 ⟨Nat.le_refl _, Nat.le_refl _⟩ (fun H locs hP hD hS => ?_)
    have hP : va_P (dC, dI) classes (wm g1 g2 g3 g4 g5 g6 g7 aM m1 m2 m3 m4 m5 m6 m7 d n kd ht tk (upd so i (σ.1, tb 72 σ.2).1) lt sto ni ac bl (σ.1, tb 72 σ.2).2) H := hP
    have hD : va_D A (wm g1 g2 g3 g4 g5 g6 g7 aM m1 m2 m3 m4 m5 m6 m7 d n kd ht tk (upd so i (σ.1, tb 72 σ.2).1) lt sto ni ac bl (σ.1, tb 72 σ.2).2) := hD
    refine lv_iload_n hx hb d_M_flashFlare_6 rfl (lv_at hl 1 rfl) ?_
    refine lv_iconst (v := 1) hx hb d_M_flashFlare_7 (by decide) ?_
    refine lv_iand hx hb d_M_flashFlare_8 ?_
    refine lv_if_ne (tgt := 19) hx hb d_M_flashFlare_9 (by decide) (fun _ => ?_) (fun h9 => absurd h9 (h1))
    refine lv_iconst (v := 0) hx hb d_M_flashFlare_19 (by decide) ?_
    exact zri E hK hP hD hS d_M_flashFlare_20
set_option maxHeartbeats 1000000 in
set_option maxRecDepth 100000 in
theorem c_M_flashOuter (l : Launch) (dC : Nat → ClassId) (dI : Nat → Nat → Nat) (g1 g2 g3 g4 g5 g6 g7 : ClassId) (A : Nat → Prop) (aM m1 m2 m3 m4 m5 m6 m7 : Nat) (d : Nat → Int32) (n : Nat) (kd ht tk so lt : Nat → Int32) (sto : Int64) (ni ac bl : Int32) (i : Nat) (hi : i < 60) (σ : zS) (x : Int32) : zM l y_M_flashOuter b_M_flashOuter 3 (some (FieldType.int)) 3 62 [.ref aM, .int x] (dC, dI) (t7 g1 g2 g3 g4 g5 g6 g7) A (wm g1 g2 g3 g4 g5 g6 g7 aM m1 m2 m3 m4 m5 m6 m7 d n kd ht tk (upd so i σ.1) lt sto ni ac bl σ.2) (wm g1 g2 g3 g4 g5 g6 g7 aM m1 m2 m3 m4 m5 m6 m7 d n kd ht tk (upd so i (fOuter x σ).2.1) lt sto ni ac bl (fOuter x σ).2.2) (some (.int (fOuter x σ).1)) := by
  refine zM_of "CoastLampsModel" rfl (by decide) (Nat.le_of_ble_eq_true rfl) ?_
  intro p e s m below meth c ls E hP hK hD hS hl
  obtain ⟨hx, hb, hml, ho, hts, hr, hlk⟩ := id E
  have hl : lv_has ls 3 [(0, .ref aM), (1, .int x)] := hl
  refine lv_aload_n hx hb d_M_flashOuter_0 rfl (lv_at hl 0 rfl) ?_
  refine lv_bipush (v := 92) hx hb d_M_flashOuter_1 (by decide) ?_
  refine zcV (As := [.int 92]) (rest := []) (ci := 11) E cy_M_begins kw_670 ks_9 kw_668 (c_M_begins l dC dI g1 g2 g3 g4 g5 g6 g7 A aM m1 m2 m3 m4 m5 m6 m7 d n kd ht tk (upd so i σ.1) lt sto ni ac bl σ.2 92) hK hP hD hS 0 rfl zC_M.1 rfl rfl hl.1 rfl (Nat.le_of_ble_eq_true rfl) ⟨Nat.le_of_ble_eq_true rfl, Nat.le_of_ble_eq_true rfl⟩ d_M_flashOuter_3 ⟨Nat.le_refl _, Nat.le_refl _⟩ (fun H locs hP hD hS => ?_)
  have hP : va_P (dC, dI) classes (wm g1 g2 g3 g4 g5 g6 g7 aM m1 m2 m3 m4 m5 m6 m7 d n kd ht tk (upd so i (σ.1, tb 92 σ.2).1) lt sto ni ac bl (σ.1, tb 92 σ.2).2) H := hP
  have hD : va_D A (wm g1 g2 g3 g4 g5 g6 g7 aM m1 m2 m3 m4 m5 m6 m7 d n kd ht tk (upd so i (σ.1, tb 92 σ.2).1) lt sto ni ac bl (σ.1, tb 92 σ.2).2) := hD
  refine lv_aload_n hx hb d_M_flashOuter_6 rfl (lv_at hl 0 rfl) ?_
  refine lv_iload_n hx hb d_M_flashOuter_7 rfl (lv_at hl 1 rfl) ?_
  refine zcV (As := [.int x]) (rest := []) (ci := 11) E cy_M_flashFlare kw_738 ks_26 kw_736 (c_M_flashFlare l dC dI g1 g2 g3 g4 g5 g6 g7 A aM m1 m2 m3 m4 m5 m6 m7 d n kd ht tk so lt sto ni ac bl i hi (σ.1, tb 92 σ.2) x) hK hP hD hS 0 rfl zC_M.1 rfl rfl hl.1 rfl (Nat.le_of_ble_eq_true rfl) ⟨Nat.le_of_ble_eq_true rfl, Nat.le_of_ble_eq_true rfl⟩ d_M_flashOuter_8 ⟨Nat.le_refl _, Nat.le_refl _⟩ (fun H locs hP hD hS => ?_)
  have hP : va_P (dC, dI) classes (wm g1 g2 g3 g4 g5 g6 g7 aM m1 m2 m3 m4 m5 m6 m7 d n kd ht tk (upd so i ((fFlare x (σ.1, tb 92 σ.2)).2).1) lt sto ni ac bl ((fFlare x (σ.1, tb 92 σ.2)).2).2) H := hP
  have hD : va_D A (wm g1 g2 g3 g4 g5 g6 g7 aM m1 m2 m3 m4 m5 m6 m7 d n kd ht tk (upd so i ((fFlare x (σ.1, tb 92 σ.2)).2).1) lt sto ni ac bl ((fFlare x (σ.1, tb 92 σ.2)).2).2) := hD
  refine lv_istore_n (lv' := [(2, .int ((fFlare x (σ.1, tb 92 σ.2)).1)), (0, .ref aM), (1, .int x)]) hx hb d_M_flashOuter_11 rfl hl (by decide) rfl (fun ls hl => ?_)
  refine lv_iload_n hx hb d_M_flashOuter_12 rfl (lv_at hl 0 rfl) ?_
  refine lv_aload_n hx hb d_M_flashOuter_13 rfl (lv_at hl 1 rfl) ?_
  refine lv_iload_n hx hb d_M_flashOuter_14 rfl (lv_at hl 2 rfl) ?_
  refine lv_iconst (v := 1) hx hb d_M_flashOuter_15 (by decide) ?_
  refine lv_iadd hx hb d_M_flashOuter_16 ?_
  refine zcV (As := [.int (x + 1)]) (rest := [.int ((fFlare x (σ.1, tb 92 σ.2)).1)]) (ci := 11) E cy_M_flashFlare kw_738 ks_26 kw_736 (c_M_flashFlare l dC dI g1 g2 g3 g4 g5 g6 g7 A aM m1 m2 m3 m4 m5 m6 m7 d n kd ht tk so lt sto ni ac bl i hi ((fFlare x (σ.1, tb 92 σ.2)).2) (x + 1)) hK hP hD hS 0 rfl zC_M.1 rfl rfl hl.1 rfl (Nat.le_of_ble_eq_true rfl) ⟨Nat.le_of_ble_eq_true rfl, Nat.le_of_ble_eq_true rfl⟩ d_M_flashOuter_17 ⟨Nat.le_refl _, Nat.le_refl _⟩ (fun H locs hP hD hS => ?_)
  have hP : va_P (dC, dI) classes (wm g1 g2 g3 g4 g5 g6 g7 aM m1 m2 m3 m4 m5 m6 m7 d n kd ht tk (upd so i ((fFlare (x + 1) ((fFlare x (σ.1, tb 92 σ.2)).2)).2).1) lt sto ni ac bl ((fFlare (x + 1) ((fFlare x (σ.1, tb 92 σ.2)).2)).2).2) H := hP
  have hD : va_D A (wm g1 g2 g3 g4 g5 g6 g7 aM m1 m2 m3 m4 m5 m6 m7 d n kd ht tk (upd so i ((fFlare (x + 1) ((fFlare x (σ.1, tb 92 σ.2)).2)).2).1) lt sto ni ac bl ((fFlare (x + 1) ((fFlare x (σ.1, tb 92 σ.2)).2)).2).2) := hD
  refine lv_iadd hx hb d_M_flashOuter_20 ?_
  exact zri E hK hP hD hS d_M_flashOuter_21
set_option maxHeartbeats 1000000 in
set_option maxRecDepth 100000 in
theorem c_M_tendLamp (l : Launch) (dC : Nat → ClassId) (dI : Nat → Nat → Nat) (g1 g2 g3 g4 g5 g6 g7 : ClassId) (A : Nat → Prop) (aM m1 m2 m3 m4 m5 m6 m7 : Nat) (d : Nat → Int32) (n : Nat) (kd ht tk so lt : Nat → Int32) (sto : Int64) (ni ac bl : Int32) (i : Nat) (hi : i < 60) (σ : zS) (x : Int32) : zM l y_M_tendLamp b_M_tendLamp 4 (some (FieldType.int)) 1 21 [.ref aM, .int (nI i), .int x] (dC, dI) (t7 g1 g2 g3 g4 g5 g6 g7) A (wm g1 g2 g3 g4 g5 g6 g7 aM m1 m2 m3 m4 m5 m6 m7 d n kd ht tk (upd so i σ.1) lt sto ni ac bl σ.2) (wm g1 g2 g3 g4 g5 g6 g7 aM m1 m2 m3 m4 m5 m6 m7 d n kd ht tk (upd so i (tLamp x σ).2.1) lt sto ni ac bl (tLamp x σ).2.2) (some (.int (tLamp x σ).1)) := by
  by_cases h1 : σ.1 - x < 0
  · have e9 : tLamp x σ = (0, (0, tb 3 σ.2)) := by simp only [tLamp, if_pos h1]
    rw [e9]
    try dsimp only
    refine zM_of "CoastLampsModel" rfl (by decide) (Nat.le_of_ble_eq_true rfl) ?_
    intro p e s m below meth c ls E hP hK hD hS hl
    obtain ⟨hx, hb, hml, ho, hts, hr, hlk⟩ := id E
    have hl : lv_has ls 4 [(0, .ref aM), (1, .int (nI i)), (2, .int x)] := hl
    refine lv_aload_n hx hb d_M_tendLamp_0 rfl (lv_at hl 0 rfl) ?_
    refine lv_iconst (v := 3) hx hb d_M_tendLamp_1 (by decide) ?_
    refine zcV (As := [.int 3]) (rest := []) (ci := 11) E cy_M_begins kw_670 ks_9 kw_668 (c_M_begins l dC dI g1 g2 g3 g4 g5 g6 g7 A aM m1 m2 m3 m4 m5 m6 m7 d n kd ht tk (upd so i σ.1) lt sto ni ac bl σ.2 3) hK hP hD hS 0 rfl zC_M.1 rfl rfl hl.1 rfl (Nat.le_of_ble_eq_true rfl) ⟨Nat.le_of_ble_eq_true rfl, Nat.le_of_ble_eq_true rfl⟩ d_M_tendLamp_2 ⟨Nat.le_refl _, Nat.le_refl _⟩ (fun H locs hP hD hS => ?_)
    have hP : va_P (dC, dI) classes (wm g1 g2 g3 g4 g5 g6 g7 aM m1 m2 m3 m4 m5 m6 m7 d n kd ht tk (upd so i (σ.1, tb 3 σ.2).1) lt sto ni ac bl (σ.1, tb 3 σ.2).2) H := hP
    have hD : va_D A (wm g1 g2 g3 g4 g5 g6 g7 aM m1 m2 m3 m4 m5 m6 m7 d n kd ht tk (upd so i (σ.1, tb 3 σ.2).1) lt sto ni ac bl (σ.1, tb 3 σ.2).2) := hD
    refine lv_aload_n hx hb d_M_tendLamp_5 rfl (lv_at hl 0 rfl) ?_
    refine zget (ci := 11) (fs := [.ref m1, .int (nI n), .ref m2, .ref m3, .ref m4, .ref m5, .ref m6, .long sto, .int ni, .int ac, .int bl, .ref m7, .int (nI (tb 3 σ.2).2.1)]) E hK hP 0 rfl zC_M 5 (by decide) kw_595 (Or.inl rfl) rfl d_M_tendLamp_6 ?_
    refine lv_iload_n hx hb d_M_tendLamp_9 rfl (lv_at hl 1 rfl) ?_
    refine va_iald hx hb hK hP 5 4 rfl rfl (vp_in_nI hi (by decide)) d_M_tendLamp_10 ?_
    rw [nI_clamp (i31 hi)]
    rw [pk_us]
    refine lv_iload_n hx hb d_M_tendLamp_11 rfl (lv_at hl 2 rfl) ?_
    refine lv_isub hx hb d_M_tendLamp_12 ?_
    refine lv_istore_n (lv' := [(3, .int (σ.1 - x)), (0, .ref aM), (1, .int (nI i)), (2, .int x)]) hx hb d_M_tendLamp_13 rfl hl (by decide) rfl (fun ls hl => ?_)
    refine lv_aload_n hx hb d_M_tendLamp_14 rfl (lv_at hl 1 rfl) ?_
    refine zget (ci := 11) (fs := [.ref m1, .int (nI n), .ref m2, .ref m3, .ref m4, .ref m5, .ref m6, .long sto, .int ni, .int ac, .int bl, .ref m7, .int (nI (tb 3 σ.2).2.1)]) E hK hP 0 rfl zC_M 5 (by decide) kw_595 (Or.inl rfl) rfl d_M_tendLamp_15 ?_
    refine lv_iload_n hx hb d_M_tendLamp_18 rfl (lv_at hl 2 rfl) ?_
    refine lv_iload_n hx hb d_M_tendLamp_19 rfl (lv_at hl 0 rfl) ?_
    refine lv_if_ge (tgt := 27) hx hb d_M_tendLamp_20 (by decide) (fun h9 => absurd h9 (Int32.not_le.mpr h1)) (fun _ => ?_)
    refine lv_iconst (v := 0) hx hb d_M_tendLamp_23 (by decide) ?_
    refine lv_goto (tgt := 28) hx hb d_M_tendLamp_24 (by decide) ?_
    refine va_iast hx hb hK hP hD hS 5 4 rfl rfl (vp_in_nI hi (by decide)) d_M_tendLamp_28 (fun H locs hP hD hS => ?_)
    rw [nI_clamp (i31 hi)] at hP hD
    rw [upd_upd] at hP hD
    have hP : va_P (dC, dI) classes (wm g1 g2 g3 g4 g5 g6 g7 aM m1 m2 m3 m4 m5 m6 m7 d n kd ht tk (upd so i (0, tb 3 σ.2).1) lt sto ni ac bl (0, tb 3 σ.2).2) H := hP
    have hD : va_D A (wm g1 g2 g3 g4 g5 g6 g7 aM m1 m2 m3 m4 m5 m6 m7 d n kd ht tk (upd so i (0, tb 3 σ.2).1) lt sto ni ac bl (0, tb 3 σ.2).2) := hD
    refine lv_aload_n hx hb d_M_tendLamp_29 rfl (lv_at hl 1 rfl) ?_
    refine zget (ci := 11) (fs := [.ref m1, .int (nI n), .ref m2, .ref m3, .ref m4, .ref m5, .ref m6, .long sto, .int ni, .int ac, .int bl, .ref m7, .int (nI (tb 3 σ.2).2.1)]) E hK hP 0 rfl zC_M 5 (by decide) kw_595 (Or.inl rfl) rfl d_M_tendLamp_30 ?_
    refine lv_iload_n hx hb d_M_tendLamp_33 rfl (lv_at hl 2 rfl) ?_
    refine va_iald hx hb hK hP 5 4 rfl rfl (vp_in_nI hi (by decide)) d_M_tendLamp_34 ?_
    rw [nI_clamp (i31 hi)]
    rw [pk_us]
    exact zri E hK hP hD hS d_M_tendLamp_35
  · have e9 : tLamp x σ = (σ.1 - x, (σ.1 - x, tb 3 σ.2)) := by simp only [tLamp, if_neg h1]
    rw [e9]
    try dsimp only
    refine zM_of "CoastLampsModel" rfl (by decide) (Nat.le_of_ble_eq_true rfl) ?_
    intro p e s m below meth c ls E hP hK hD hS hl
    obtain ⟨hx, hb, hml, ho, hts, hr, hlk⟩ := id E
    have hl : lv_has ls 4 [(0, .ref aM), (1, .int (nI i)), (2, .int x)] := hl
    refine lv_aload_n hx hb d_M_tendLamp_0 rfl (lv_at hl 0 rfl) ?_
    refine lv_iconst (v := 3) hx hb d_M_tendLamp_1 (by decide) ?_
    refine zcV (As := [.int 3]) (rest := []) (ci := 11) E cy_M_begins kw_670 ks_9 kw_668 (c_M_begins l dC dI g1 g2 g3 g4 g5 g6 g7 A aM m1 m2 m3 m4 m5 m6 m7 d n kd ht tk (upd so i σ.1) lt sto ni ac bl σ.2 3) hK hP hD hS 0 rfl zC_M.1 rfl rfl hl.1 rfl (Nat.le_of_ble_eq_true rfl) ⟨Nat.le_of_ble_eq_true rfl, Nat.le_of_ble_eq_true rfl⟩ d_M_tendLamp_2 ⟨Nat.le_refl _, Nat.le_refl _⟩ (fun H locs hP hD hS => ?_)
    have hP : va_P (dC, dI) classes (wm g1 g2 g3 g4 g5 g6 g7 aM m1 m2 m3 m4 m5 m6 m7 d n kd ht tk (upd so i (σ.1, tb 3 σ.2).1) lt sto ni ac bl (σ.1, tb 3 σ.2).2) H := hP
    have hD : va_D A (wm g1 g2 g3 g4 g5 g6 g7 aM m1 m2 m3 m4 m5 m6 m7 d n kd ht tk (upd so i (σ.1, tb 3 σ.2).1) lt sto ni ac bl (σ.1, tb 3 σ.2).2) := hD
    refine lv_aload_n hx hb d_M_tendLamp_5 rfl (lv_at hl 0 rfl) ?_
    refine zget (ci := 11) (fs := [.ref m1, .int (nI n), .ref m2, .ref m3, .ref m4, .ref m5, .ref m6, .long sto, .int ni, .int ac, .int bl, .ref m7, .int (nI (tb 3 σ.2).2.1)]) E hK hP 0 rfl zC_M 5 (by decide) kw_595 (Or.inl rfl) rfl d_M_tendLamp_6 ?_
    refine lv_iload_n hx hb d_M_tendLamp_9 rfl (lv_at hl 1 rfl) ?_
    refine va_iald hx hb hK hP 5 4 rfl rfl (vp_in_nI hi (by decide)) d_M_tendLamp_10 ?_
    rw [nI_clamp (i31 hi)]
    rw [pk_us]
    refine lv_iload_n hx hb d_M_tendLamp_11 rfl (lv_at hl 2 rfl) ?_
    refine lv_isub hx hb d_M_tendLamp_12 ?_
    refine lv_istore_n (lv' := [(3, .int (σ.1 - x)), (0, .ref aM), (1, .int (nI i)), (2, .int x)]) hx hb d_M_tendLamp_13 rfl hl (by decide) rfl (fun ls hl => ?_)
    refine lv_aload_n hx hb d_M_tendLamp_14 rfl (lv_at hl 1 rfl) ?_
    refine zget (ci := 11) (fs := [.ref m1, .int (nI n), .ref m2, .ref m3, .ref m4, .ref m5, .ref m6, .long sto, .int ni, .int ac, .int bl, .ref m7, .int (nI (tb 3 σ.2).2.1)]) E hK hP 0 rfl zC_M 5 (by decide) kw_595 (Or.inl rfl) rfl d_M_tendLamp_15 ?_
    refine lv_iload_n hx hb d_M_tendLamp_18 rfl (lv_at hl 2 rfl) ?_
    refine lv_iload_n hx hb d_M_tendLamp_19 rfl (lv_at hl 0 rfl) ?_
    refine lv_if_ge (tgt := 27) hx hb d_M_tendLamp_20 (by decide) (fun _ => ?_) (fun h9 => absurd (Int32.not_lt.mp h1) h9)
    refine lv_iload_n hx hb d_M_tendLamp_27 rfl (lv_at hl 0 rfl) ?_
    refine va_iast hx hb hK hP hD hS 5 4 rfl rfl (vp_in_nI hi (by decide)) d_M_tendLamp_28 (fun H locs hP hD hS => ?_)
    rw [nI_clamp (i31 hi)] at hP hD
    rw [upd_upd] at hP hD
    have hP : va_P (dC, dI) classes (wm g1 g2 g3 g4 g5 g6 g7 aM m1 m2 m3 m4 m5 m6 m7 d n kd ht tk (upd so i (σ.1 - x, tb 3 σ.2).1) lt sto ni ac bl (σ.1 - x, tb 3 σ.2).2) H := hP
    have hD : va_D A (wm g1 g2 g3 g4 g5 g6 g7 aM m1 m2 m3 m4 m5 m6 m7 d n kd ht tk (upd so i (σ.1 - x, tb 3 σ.2).1) lt sto ni ac bl (σ.1 - x, tb 3 σ.2).2) := hD
    refine lv_aload_n hx hb d_M_tendLamp_29 rfl (lv_at hl 1 rfl) ?_
    refine zget (ci := 11) (fs := [.ref m1, .int (nI n), .ref m2, .ref m3, .ref m4, .ref m5, .ref m6, .long sto, .int ni, .int ac, .int bl, .ref m7, .int (nI (tb 3 σ.2).2.1)]) E hK hP 0 rfl zC_M 5 (by decide) kw_595 (Or.inl rfl) rfl d_M_tendLamp_30 ?_
    refine lv_iload_n hx hb d_M_tendLamp_33 rfl (lv_at hl 2 rfl) ?_
    refine va_iald hx hb hK hP 5 4 rfl rfl (vp_in_nI hi (by decide)) d_M_tendLamp_34 ?_
    rw [nI_clamp (i31 hi)]
    rw [pk_us]
    exact zri E hK hP hD hS d_M_tendLamp_35
set_option maxHeartbeats 1000000 in
set_option maxRecDepth 100000 in
theorem c_M_tendRound (l : Launch) (dC : Nat → ClassId) (dI : Nat → Nat → Nat) (g1 g2 g3 g4 g5 g6 g7 : ClassId) (A : Nat → Prop) (aM m1 m2 m3 m4 m5 m6 m7 : Nat) (d : Nat → Int32) (n : Nat) (kd ht tk so lt : Nat → Int32) (sto : Int64) (ni ac bl : Int32) (i : Nat) (hi : i < 60) (σ : zS) (x : Int32) : zM l y_M_tendRound b_M_tendRound 4 (some (FieldType.int)) 2 44 [.ref aM, .int (nI i), .int x] (dC, dI) (t7 g1 g2 g3 g4 g5 g6 g7) A (wm g1 g2 g3 g4 g5 g6 g7 aM m1 m2 m3 m4 m5 m6 m7 d n kd ht tk (upd so i σ.1) lt sto ni ac bl σ.2) (wm g1 g2 g3 g4 g5 g6 g7 aM m1 m2 m3 m4 m5 m6 m7 d n kd ht tk (upd so i (tRound x σ).2.1) lt sto ni ac bl (tRound x σ).2.2) (some (.int (tRound x σ).1)) := by
  refine zM_of "CoastLampsModel" rfl (by decide) (Nat.le_of_ble_eq_true rfl) ?_
  intro p e s m below meth c ls E hP hK hD hS hl
  obtain ⟨hx, hb, hml, ho, hts, hr, hlk⟩ := id E
  have hl : lv_has ls 4 [(0, .ref aM), (1, .int (nI i)), (2, .int x)] := hl
  refine lv_aload_n hx hb d_M_tendRound_0 rfl (lv_at hl 0 rfl) ?_
  refine lv_bipush (v := 23) hx hb d_M_tendRound_1 (by decide) ?_
  refine zcV (As := [.int 23]) (rest := []) (ci := 11) E cy_M_begins kw_670 ks_9 kw_668 (c_M_begins l dC dI g1 g2 g3 g4 g5 g6 g7 A aM m1 m2 m3 m4 m5 m6 m7 d n kd ht tk (upd so i σ.1) lt sto ni ac bl σ.2 23) hK hP hD hS 0 rfl zC_M.1 rfl rfl hl.1 rfl (Nat.le_of_ble_eq_true rfl) ⟨Nat.le_of_ble_eq_true rfl, Nat.le_of_ble_eq_true rfl⟩ d_M_tendRound_3 ⟨Nat.le_refl _, Nat.le_refl _⟩ (fun H locs hP hD hS => ?_)
  have hP : va_P (dC, dI) classes (wm g1 g2 g3 g4 g5 g6 g7 aM m1 m2 m3 m4 m5 m6 m7 d n kd ht tk (upd so i (σ.1, tb 23 σ.2).1) lt sto ni ac bl (σ.1, tb 23 σ.2).2) H := hP
  have hD : va_D A (wm g1 g2 g3 g4 g5 g6 g7 aM m1 m2 m3 m4 m5 m6 m7 d n kd ht tk (upd so i (σ.1, tb 23 σ.2).1) lt sto ni ac bl (σ.1, tb 23 σ.2).2) := hD
  refine lv_aload_n hx hb d_M_tendRound_6 rfl (lv_at hl 0 rfl) ?_
  refine lv_iload_n hx hb d_M_tendRound_7 rfl (lv_at hl 1 rfl) ?_
  refine lv_iload_n hx hb d_M_tendRound_8 rfl (lv_at hl 2 rfl) ?_
  refine zcV (As := [.int (nI i), .int x]) (rest := []) (ci := 11) E cy_M_tendLamp kw_754 ks_30 kw_752 (c_M_tendLamp l dC dI g1 g2 g3 g4 g5 g6 g7 A aM m1 m2 m3 m4 m5 m6 m7 d n kd ht tk so lt sto ni ac bl i hi (σ.1, tb 23 σ.2) x) hK hP hD hS 0 rfl zC_M.1 rfl rfl hl.1 rfl (Nat.le_of_ble_eq_true rfl) ⟨Nat.le_of_ble_eq_true rfl, Nat.le_of_ble_eq_true rfl⟩ d_M_tendRound_9 ⟨Nat.le_refl _, Nat.le_refl _⟩ (fun H locs hP hD hS => ?_)
  have hP : va_P (dC, dI) classes (wm g1 g2 g3 g4 g5 g6 g7 aM m1 m2 m3 m4 m5 m6 m7 d n kd ht tk (upd so i ((tLamp x (σ.1, tb 23 σ.2)).2).1) lt sto ni ac bl ((tLamp x (σ.1, tb 23 σ.2)).2).2) H := hP
  have hD : va_D A (wm g1 g2 g3 g4 g5 g6 g7 aM m1 m2 m3 m4 m5 m6 m7 d n kd ht tk (upd so i ((tLamp x (σ.1, tb 23 σ.2)).2).1) lt sto ni ac bl ((tLamp x (σ.1, tb 23 σ.2)).2).2) := hD
  refine lv_istore_n (lv' := [(3, .int ((tLamp x (σ.1, tb 23 σ.2)).1)), (0, .ref aM), (1, .int (nI i)), (2, .int x)]) hx hb d_M_tendRound_12 rfl hl (by decide) rfl (fun ls hl => ?_)
  refine lv_aload_n hx hb d_M_tendRound_13 rfl (lv_at hl 1 rfl) ?_
  refine lv_iload_n hx hb d_M_tendRound_14 rfl (lv_at hl 2 rfl) ?_
  refine lv_iload_n hx hb d_M_tendRound_15 rfl (lv_at hl 3 rfl) ?_
  refine lv_iconst (v := 2) hx hb d_M_tendRound_16 (by decide) ?_
  refine lv_idiv hx hb d_M_tendRound_17 (by decide) ?_
  refine zcV (As := [.int (nI i), .int (x / 2)]) (rest := []) (ci := 11) E cy_M_tendLamp kw_754 ks_30 kw_752 (c_M_tendLamp l dC dI g1 g2 g3 g4 g5 g6 g7 A aM m1 m2 m3 m4 m5 m6 m7 d n kd ht tk so lt sto ni ac bl i hi ((tLamp x (σ.1, tb 23 σ.2)).2) (x / 2)) hK hP hD hS 0 rfl zC_M.1 rfl rfl hl.1 rfl (Nat.le_of_ble_eq_true rfl) ⟨Nat.le_of_ble_eq_true rfl, Nat.le_of_ble_eq_true rfl⟩ d_M_tendRound_18 ⟨Nat.le_refl _, Nat.le_refl _⟩ (fun H locs hP hD hS => ?_)
  have hP : va_P (dC, dI) classes (wm g1 g2 g3 g4 g5 g6 g7 aM m1 m2 m3 m4 m5 m6 m7 d n kd ht tk (upd so i ((tLamp (x / 2) ((tLamp x (σ.1, tb 23 σ.2)).2)).2).1) lt sto ni ac bl ((tLamp (x / 2) ((tLamp x (σ.1, tb 23 σ.2)).2)).2).2) H := hP
  have hD : va_D A (wm g1 g2 g3 g4 g5 g6 g7 aM m1 m2 m3 m4 m5 m6 m7 d n kd ht tk (upd so i ((tLamp (x / 2) ((tLamp x (σ.1, tb 23 σ.2)).2)).2).1) lt sto ni ac bl ((tLamp (x / 2) ((tLamp x (σ.1, tb 23 σ.2)).2)).2).2) := hD
  exact zri E hK hP hD hS d_M_tendRound_21
set_option maxHeartbeats 1000000 in
set_option maxRecDepth 100000 in
theorem c_M_tendDrum (l : Launch) (dC : Nat → ClassId) (dI : Nat → Nat → Nat) (g1 g2 g3 g4 g5 g6 g7 : ClassId) (A : Nat → Prop) (aM m1 m2 m3 m4 m5 m6 m7 : Nat) (d : Nat → Int32) (n : Nat) (kd ht tk so lt : Nat → Int32) (sto : Int64) (ni ac bl : Int32) (i : Nat) (hi : i < 60) (σ : zS) (x : Int32) : zM l y_M_tendDrum b_M_tendDrum 3 (some (FieldType.int)) 3 67 [.ref aM, .int (nI i), .int x] (dC, dI) (t7 g1 g2 g3 g4 g5 g6 g7) A (wm g1 g2 g3 g4 g5 g6 g7 aM m1 m2 m3 m4 m5 m6 m7 d n kd ht tk (upd so i σ.1) lt sto ni ac bl σ.2) (wm g1 g2 g3 g4 g5 g6 g7 aM m1 m2 m3 m4 m5 m6 m7 d n kd ht tk (upd so i (tDrum d x σ).2.1) lt sto ni ac bl (tDrum d x σ).2.2) (some (.int (tDrum d x σ).1)) := by
  refine zM_of "CoastLampsModel" rfl (by decide) (Nat.le_of_ble_eq_true rfl) ?_
  intro p e s m below meth c ls E hP hK hD hS hl
  obtain ⟨hx, hb, hml, ho, hts, hr, hlk⟩ := id E
  have hl : lv_has ls 3 [(0, .ref aM), (1, .int (nI i)), (2, .int x)] := hl
  refine lv_aload_n hx hb d_M_tendDrum_0 rfl (lv_at hl 0 rfl) ?_
  refine lv_bipush (v := 43) hx hb d_M_tendDrum_1 (by decide) ?_
  refine zcV (As := [.int 43]) (rest := []) (ci := 11) E cy_M_begins kw_670 ks_9 kw_668 (c_M_begins l dC dI g1 g2 g3 g4 g5 g6 g7 A aM m1 m2 m3 m4 m5 m6 m7 d n kd ht tk (upd so i σ.1) lt sto ni ac bl σ.2 43) hK hP hD hS 0 rfl zC_M.1 rfl rfl hl.1 rfl (Nat.le_of_ble_eq_true rfl) ⟨Nat.le_of_ble_eq_true rfl, Nat.le_of_ble_eq_true rfl⟩ d_M_tendDrum_3 ⟨Nat.le_refl _, Nat.le_refl _⟩ (fun H locs hP hD hS => ?_)
  have hP : va_P (dC, dI) classes (wm g1 g2 g3 g4 g5 g6 g7 aM m1 m2 m3 m4 m5 m6 m7 d n kd ht tk (upd so i (σ.1, tb 43 σ.2).1) lt sto ni ac bl (σ.1, tb 43 σ.2).2) H := hP
  have hD : va_D A (wm g1 g2 g3 g4 g5 g6 g7 aM m1 m2 m3 m4 m5 m6 m7 d n kd ht tk (upd so i (σ.1, tb 43 σ.2).1) lt sto ni ac bl (σ.1, tb 43 σ.2).2) := hD
  refine lv_aload_n hx hb d_M_tendDrum_6 rfl (lv_at hl 0 rfl) ?_
  refine lv_iload_n hx hb d_M_tendDrum_7 rfl (lv_at hl 1 rfl) ?_
  refine lv_iload_n hx hb d_M_tendDrum_8 rfl (lv_at hl 2 rfl) ?_
  refine lv_aload_n hx hb d_M_tendDrum_9 rfl (lv_at hl 0 rfl) ?_
  refine zget (ci := 11) (fs := [.ref m1, .int (nI n), .ref m2, .ref m3, .ref m4, .ref m5, .ref m6, .long sto, .int ni, .int ac, .int bl, .ref m7, .int (nI (tb 43 σ.2).2.1)]) E hK hP 0 rfl zC_M 0 (by decide) kw_590 (Or.inl rfl) rfl d_M_tendDrum_10 ?_
  refine lv_iconst (v := 3) hx hb d_M_tendDrum_13 (by decide) ?_
  refine va_iald hx hb hK hP 1 0 rfl rfl (by unfold vp_in; decide) d_M_tendDrum_14 ?_
  rw [show (3 : Int32).toNatClampNeg = 3 from by decide]
  refine lv_iadd hx hb d_M_tendDrum_15 ?_
  refine zcV (As := [.int (nI i), .int (x + (d 3))]) (rest := []) (ci := 11) E cy_M_tendRound kw_750 ks_29 kw_748 (c_M_tendRound l dC dI g1 g2 g3 g4 g5 g6 g7 A aM m1 m2 m3 m4 m5 m6 m7 d n kd ht tk so lt sto ni ac bl i hi (σ.1, tb 43 σ.2) (x + (d 3))) hK hP hD hS 0 rfl zC_M.1 rfl rfl hl.1 rfl (Nat.le_of_ble_eq_true rfl) ⟨Nat.le_of_ble_eq_true rfl, Nat.le_of_ble_eq_true rfl⟩ d_M_tendDrum_16 ⟨Nat.le_refl _, Nat.le_refl _⟩ (fun H locs hP hD hS => ?_)
  have hP : va_P (dC, dI) classes (wm g1 g2 g3 g4 g5 g6 g7 aM m1 m2 m3 m4 m5 m6 m7 d n kd ht tk (upd so i ((tRound (x + (d 3)) (σ.1, tb 43 σ.2)).2).1) lt sto ni ac bl ((tRound (x + (d 3)) (σ.1, tb 43 σ.2)).2).2) H := hP
  have hD : va_D A (wm g1 g2 g3 g4 g5 g6 g7 aM m1 m2 m3 m4 m5 m6 m7 d n kd ht tk (upd so i ((tRound (x + (d 3)) (σ.1, tb 43 σ.2)).2).1) lt sto ni ac bl ((tRound (x + (d 3)) (σ.1, tb 43 σ.2)).2).2) := hD
  exact zri E hK hP hD hS d_M_tendDrum_19
set_option maxHeartbeats 1000000 in
set_option maxRecDepth 100000 in
theorem c_M_tendBuoy (l : Launch) (dC : Nat → ClassId) (dI : Nat → Nat → Nat) (g1 g2 g3 g4 g5 g6 g7 : ClassId) (A : Nat → Prop) (aM m1 m2 m3 m4 m5 m6 m7 : Nat) (d : Nat → Int32) (n : Nat) (kd ht tk so lt : Nat → Int32) (sto : Int64) (ni ac bl : Int32) (i : Nat) (hi : i < 60) (σ : zS) (x : Int32) : zM l y_M_tendBuoy b_M_tendBuoy 3 (some (FieldType.int)) 2 44 [.ref aM, .int (nI i), .int x] (dC, dI) (t7 g1 g2 g3 g4 g5 g6 g7) A (wm g1 g2 g3 g4 g5 g6 g7 aM m1 m2 m3 m4 m5 m6 m7 d n kd ht tk (upd so i σ.1) lt sto ni ac bl σ.2) (wm g1 g2 g3 g4 g5 g6 g7 aM m1 m2 m3 m4 m5 m6 m7 d n kd ht tk (upd so i (tBuoy d x σ).2.1) lt sto ni ac bl (tBuoy d x σ).2.2) (some (.int (tBuoy d x σ).1)) := by
  by_cases h1 : d 4 = 0
  · have e9 : tBuoy d x σ = tLamp x (σ.1, tb 83 σ.2) := by simp only [tBuoy, if_pos h1]
    rw [e9]
    try dsimp only
    refine zM_of "CoastLampsModel" rfl (by decide) (Nat.le_of_ble_eq_true rfl) ?_
    intro p e s m below meth c ls E hP hK hD hS hl
    obtain ⟨hx, hb, hml, ho, hts, hr, hlk⟩ := id E
    have hl : lv_has ls 3 [(0, .ref aM), (1, .int (nI i)), (2, .int x)] := hl
    refine lv_aload_n hx hb d_M_tendBuoy_0 rfl (lv_at hl 0 rfl) ?_
    refine lv_bipush (v := 83) hx hb d_M_tendBuoy_1 (by decide) ?_
    refine zcV (As := [.int 83]) (rest := []) (ci := 11) E cy_M_begins kw_670 ks_9 kw_668 (c_M_begins l dC dI g1 g2 g3 g4 g5 g6 g7 A aM m1 m2 m3 m4 m5 m6 m7 d n kd ht tk (upd so i σ.1) lt sto ni ac bl σ.2 83) hK hP hD hS 0 rfl zC_M.1 rfl rfl hl.1 rfl (Nat.le_of_ble_eq_true rfl) ⟨Nat.le_of_ble_eq_true rfl, Nat.le_of_ble_eq_true rfl⟩ d_M_tendBuoy_3 ⟨Nat.le_refl _, Nat.le_refl _⟩ (fun H locs hP hD hS => ?_)
    have hP : va_P (dC, dI) classes (wm g1 g2 g3 g4 g5 g6 g7 aM m1 m2 m3 m4 m5 m6 m7 d n kd ht tk (upd so i (σ.1, tb 83 σ.2).1) lt sto ni ac bl (σ.1, tb 83 σ.2).2) H := hP
    have hD : va_D A (wm g1 g2 g3 g4 g5 g6 g7 aM m1 m2 m3 m4 m5 m6 m7 d n kd ht tk (upd so i (σ.1, tb 83 σ.2).1) lt sto ni ac bl (σ.1, tb 83 σ.2).2) := hD
    refine lv_aload_n hx hb d_M_tendBuoy_6 rfl (lv_at hl 0 rfl) ?_
    refine zget (ci := 11) (fs := [.ref m1, .int (nI n), .ref m2, .ref m3, .ref m4, .ref m5, .ref m6, .long sto, .int ni, .int ac, .int bl, .ref m7, .int (nI (tb 83 σ.2).2.1)]) E hK hP 0 rfl zC_M 0 (by decide) kw_590 (Or.inl rfl) rfl d_M_tendBuoy_7 ?_
    refine lv_iconst (v := 4) hx hb d_M_tendBuoy_10 (by decide) ?_
    refine va_iald hx hb hK hP 1 0 rfl rfl (by unfold vp_in; decide) d_M_tendBuoy_11 ?_
    rw [show (4 : Int32).toNatClampNeg = 4 from by decide]
    refine lv_if_ne (tgt := 24) hx hb d_M_tendBuoy_12 (by decide) (fun h9 => absurd (h1) h9) (fun _ => ?_)
    refine lv_aload_n hx hb d_M_tendBuoy_15 rfl (lv_at hl 0 rfl) ?_
    refine lv_iload_n hx hb d_M_tendBuoy_16 rfl (lv_at hl 1 rfl) ?_
    refine lv_iload_n hx hb d_M_tendBuoy_17 rfl (lv_at hl 2 rfl) ?_
    refine zcV (As := [.int (nI i), .int x]) (rest := []) (ci := 11) E cy_M_tendLamp kw_754 ks_30 kw_752 (c_M_tendLamp l dC dI g1 g2 g3 g4 g5 g6 g7 A aM m1 m2 m3 m4 m5 m6 m7 d n kd ht tk so lt sto ni ac bl i hi (σ.1, tb 83 σ.2) x) hK hP hD hS 0 rfl zC_M.1 rfl rfl hl.1 rfl (Nat.le_of_ble_eq_true rfl) ⟨Nat.le_of_ble_eq_true rfl, Nat.le_of_ble_eq_true rfl⟩ d_M_tendBuoy_18 ⟨Nat.le_refl _, Nat.le_refl _⟩ (fun H locs hP hD hS => ?_)
    have hP : va_P (dC, dI) classes (wm g1 g2 g3 g4 g5 g6 g7 aM m1 m2 m3 m4 m5 m6 m7 d n kd ht tk (upd so i ((tLamp x (σ.1, tb 83 σ.2)).2).1) lt sto ni ac bl ((tLamp x (σ.1, tb 83 σ.2)).2).2) H := hP
    have hD : va_D A (wm g1 g2 g3 g4 g5 g6 g7 aM m1 m2 m3 m4 m5 m6 m7 d n kd ht tk (upd so i ((tLamp x (σ.1, tb 83 σ.2)).2).1) lt sto ni ac bl ((tLamp x (σ.1, tb 83 σ.2)).2).2) := hD
    refine lv_goto (tgt := 30) hx hb d_M_tendBuoy_21 (by decide) ?_
    exact zri E hK hP hD hS d_M_tendBuoy_30
  · have e9 : tBuoy d x σ = (d 4, (σ.1, tb 83 σ.2)) := by simp only [tBuoy, if_neg h1]
    rw [e9]
    try dsimp only
    refine zM_of "CoastLampsModel" rfl (by decide) (Nat.le_of_ble_eq_true rfl) ?_
    intro p e s m below meth c ls E hP hK hD hS hl
    obtain ⟨hx, hb, hml, ho, hts, hr, hlk⟩ := id E
    have hl : lv_has ls 3 [(0, .ref aM), (1, .int (nI i)), (2, .int x)] := hl
    refine lv_aload_n hx hb d_M_tendBuoy_0 rfl (lv_at hl 0 rfl) ?_
    refine lv_bipush (v := 83) hx hb d_M_tendBuoy_1 (by decide) ?_
    refine zcV (As := [.int 83]) (rest := []) (ci := 11) E cy_M_begins kw_670 ks_9 kw_668 (c_M_begins l dC dI g1 g2 g3 g4 g5 g6 g7 A aM m1 m2 m3 m4 m5 m6 m7 d n kd ht tk (upd so i σ.1) lt sto ni ac bl σ.2 83) hK hP hD hS 0 rfl zC_M.1 rfl rfl hl.1 rfl (Nat.le_of_ble_eq_true rfl) ⟨Nat.le_of_ble_eq_true rfl, Nat.le_of_ble_eq_true rfl⟩ d_M_tendBuoy_3 ⟨Nat.le_refl _, Nat.le_refl _⟩ (fun H locs hP hD hS => ?_)
    have hP : va_P (dC, dI) classes (wm g1 g2 g3 g4 g5 g6 g7 aM m1 m2 m3 m4 m5 m6 m7 d n kd ht tk (upd so i (σ.1, tb 83 σ.2).1) lt sto ni ac bl (σ.1, tb 83 σ.2).2) H := hP
    have hD : va_D A (wm g1 g2 g3 g4 g5 g6 g7 aM m1 m2 m3 m4 m5 m6 m7 d n kd ht tk (upd so i (σ.1, tb 83 σ.2).1) lt sto ni ac bl (σ.1, tb 83 σ.2).2) := hD
    refine lv_aload_n hx hb d_M_tendBuoy_6 rfl (lv_at hl 0 rfl) ?_
    refine zget (ci := 11) (fs := [.ref m1, .int (nI n), .ref m2, .ref m3, .ref m4, .ref m5, .ref m6, .long sto, .int ni, .int ac, .int bl, .ref m7, .int (nI (tb 83 σ.2).2.1)]) E hK hP 0 rfl zC_M 0 (by decide) kw_590 (Or.inl rfl) rfl d_M_tendBuoy_7 ?_
    refine lv_iconst (v := 4) hx hb d_M_tendBuoy_10 (by decide) ?_
    refine va_iald hx hb hK hP 1 0 rfl rfl (by unfold vp_in; decide) d_M_tendBuoy_11 ?_
    rw [show (4 : Int32).toNatClampNeg = 4 from by decide]
    refine lv_if_ne (tgt := 24) hx hb d_M_tendBuoy_12 (by decide) (fun _ => ?_) (fun h9 => absurd h9 (h1))
    refine lv_aload_n hx hb d_M_tendBuoy_24 rfl (lv_at hl 0 rfl) ?_
    refine zget (ci := 11) (fs := [.ref m1, .int (nI n), .ref m2, .ref m3, .ref m4, .ref m5, .ref m6, .long sto, .int ni, .int ac, .int bl, .ref m7, .int (nI (tb 83 σ.2).2.1)]) E hK hP 0 rfl zC_M 0 (by decide) kw_590 (Or.inl rfl) rfl d_M_tendBuoy_25 ?_
    refine lv_iconst (v := 4) hx hb d_M_tendBuoy_28 (by decide) ?_
    refine va_iald hx hb hK hP 1 0 rfl rfl (by unfold vp_in; decide) d_M_tendBuoy_29 ?_
    rw [show (4 : Int32).toNatClampNeg = 4 from by decide]
    exact zri E hK hP hD hS d_M_tendBuoy_30
set_option maxHeartbeats 1000000 in
set_option maxRecDepth 100000 in
theorem c_M_rankLamp (l : Launch) (dC : Nat → ClassId) (dI : Nat → Nat → Nat) (g1 g2 g3 g4 g5 g6 g7 : ClassId) (A : Nat → Prop) (aM m1 m2 m3 m4 m5 m6 m7 : Nat) (d : Nat → Int32) (n : Nat) (kd ht tk so lt : Nat → Int32) (sto : Int64) (ni ac bl : Int32) (i : Nat) (hi : i < 60) (σ : zS) : zM l y_M_rankLamp b_M_rankLamp 2 (some (FieldType.int)) 1 21 [.ref aM, .int (nI i)] (dC, dI) (t7 g1 g2 g3 g4 g5 g6 g7) A (wm g1 g2 g3 g4 g5 g6 g7 aM m1 m2 m3 m4 m5 m6 m7 d n kd ht tk (upd so i σ.1) lt sto ni ac bl σ.2) (wm g1 g2 g3 g4 g5 g6 g7 aM m1 m2 m3 m4 m5 m6 m7 d n kd ht tk (upd so i (kLamp (ht i) σ).2.1) lt sto ni ac bl (kLamp (ht i) σ).2.2) (some (.int (kLamp (ht i) σ).1)) := by
  refine zM_of "CoastLampsModel" rfl (by decide) (Nat.le_of_ble_eq_true rfl) ?_
  intro p e s m below meth c ls E hP hK hD hS hl
  obtain ⟨hx, hb, hml, ho, hts, hr, hlk⟩ := id E
  have hl : lv_has ls 2 [(0, .ref aM), (1, .int (nI i))] := hl
  refine lv_aload_n hx hb d_M_rankLamp_0 rfl (lv_at hl 0 rfl) ?_
  refine lv_iconst (v := 4) hx hb d_M_rankLamp_1 (by decide) ?_
  refine zcV (As := [.int 4]) (rest := []) (ci := 11) E cy_M_begins kw_670 ks_9 kw_668 (c_M_begins l dC dI g1 g2 g3 g4 g5 g6 g7 A aM m1 m2 m3 m4 m5 m6 m7 d n kd ht tk (upd so i σ.1) lt sto ni ac bl σ.2 4) hK hP hD hS 0 rfl zC_M.1 rfl rfl hl.1 rfl (Nat.le_of_ble_eq_true rfl) ⟨Nat.le_of_ble_eq_true rfl, Nat.le_of_ble_eq_true rfl⟩ d_M_rankLamp_2 ⟨Nat.le_refl _, Nat.le_refl _⟩ (fun H locs hP hD hS => ?_)
  have hP : va_P (dC, dI) classes (wm g1 g2 g3 g4 g5 g6 g7 aM m1 m2 m3 m4 m5 m6 m7 d n kd ht tk (upd so i (σ.1, tb 4 σ.2).1) lt sto ni ac bl (σ.1, tb 4 σ.2).2) H := hP
  have hD : va_D A (wm g1 g2 g3 g4 g5 g6 g7 aM m1 m2 m3 m4 m5 m6 m7 d n kd ht tk (upd so i (σ.1, tb 4 σ.2).1) lt sto ni ac bl (σ.1, tb 4 σ.2).2) := hD
  refine lv_aload_n hx hb d_M_rankLamp_5 rfl (lv_at hl 0 rfl) ?_
  refine zget (ci := 11) (fs := [.ref m1, .int (nI n), .ref m2, .ref m3, .ref m4, .ref m5, .ref m6, .long sto, .int ni, .int ac, .int bl, .ref m7, .int (nI (tb 4 σ.2).2.1)]) E hK hP 0 rfl zC_M 3 (by decide) kw_593 (Or.inl rfl) rfl d_M_rankLamp_6 ?_
  refine lv_iload_n hx hb d_M_rankLamp_9 rfl (lv_at hl 1 rfl) ?_
  refine va_iald hx hb hK hP 3 2 rfl rfl (vp_in_nI hi (by decide)) d_M_rankLamp_10 ?_
  rw [nI_clamp (i31 hi)]
  refine lv_bipush (v := 9) hx hb d_M_rankLamp_11 (by decide) ?_
  refine lv_irem hx hb d_M_rankLamp_13 (by decide) ?_
  exact zri E hK hP hD hS d_M_rankLamp_14
set_option maxHeartbeats 1000000 in
set_option maxRecDepth 100000 in
theorem c_M_rankOil (l : Launch) (dC : Nat → ClassId) (dI : Nat → Nat → Nat) (g1 g2 g3 g4 g5 g6 g7 : ClassId) (A : Nat → Prop) (aM m1 m2 m3 m4 m5 m6 m7 : Nat) (d : Nat → Int32) (n : Nat) (kd ht tk so lt : Nat → Int32) (sto : Int64) (ni ac bl : Int32) (i : Nat) (hi : i < 60) (σ : zS) : zM l y_M_rankOil b_M_rankOil 2 (some (FieldType.int)) 2 42 [.ref aM, .int (nI i)] (dC, dI) (t7 g1 g2 g3 g4 g5 g6 g7) A (wm g1 g2 g3 g4 g5 g6 g7 aM m1 m2 m3 m4 m5 m6 m7 d n kd ht tk (upd so i σ.1) lt sto ni ac bl σ.2) (wm g1 g2 g3 g4 g5 g6 g7 aM m1 m2 m3 m4 m5 m6 m7 d n kd ht tk (upd so i (kOil (ht i) σ).2.1) lt sto ni ac bl (kOil (ht i) σ).2.2) (some (.int (kOil (ht i) σ).1)) := by
  refine zM_of "CoastLampsModel" rfl (by decide) (Nat.le_of_ble_eq_true rfl) ?_
  intro p e s m below meth c ls E hP hK hD hS hl
  obtain ⟨hx, hb, hml, ho, hts, hr, hlk⟩ := id E
  have hl : lv_has ls 2 [(0, .ref aM), (1, .int (nI i))] := hl
  refine lv_aload_n hx hb d_M_rankOil_0 rfl (lv_at hl 0 rfl) ?_
  refine lv_bipush (v := 14) hx hb d_M_rankOil_1 (by decide) ?_
  refine zcV (As := [.int 14]) (rest := []) (ci := 11) E cy_M_begins kw_670 ks_9 kw_668 (c_M_begins l dC dI g1 g2 g3 g4 g5 g6 g7 A aM m1 m2 m3 m4 m5 m6 m7 d n kd ht tk (upd so i σ.1) lt sto ni ac bl σ.2 14) hK hP hD hS 0 rfl zC_M.1 rfl rfl hl.1 rfl (Nat.le_of_ble_eq_true rfl) ⟨Nat.le_of_ble_eq_true rfl, Nat.le_of_ble_eq_true rfl⟩ d_M_rankOil_3 ⟨Nat.le_refl _, Nat.le_refl _⟩ (fun H locs hP hD hS => ?_)
  have hP : va_P (dC, dI) classes (wm g1 g2 g3 g4 g5 g6 g7 aM m1 m2 m3 m4 m5 m6 m7 d n kd ht tk (upd so i (σ.1, tb 14 σ.2).1) lt sto ni ac bl (σ.1, tb 14 σ.2).2) H := hP
  have hD : va_D A (wm g1 g2 g3 g4 g5 g6 g7 aM m1 m2 m3 m4 m5 m6 m7 d n kd ht tk (upd so i (σ.1, tb 14 σ.2).1) lt sto ni ac bl (σ.1, tb 14 σ.2).2) := hD
  refine lv_aload_n hx hb d_M_rankOil_6 rfl (lv_at hl 0 rfl) ?_
  refine lv_iload_n hx hb d_M_rankOil_7 rfl (lv_at hl 1 rfl) ?_
  refine zcV (As := [.int (nI i)]) (rest := []) (ci := 11) E cy_M_rankLamp kw_774 ks_35 kw_772 (c_M_rankLamp l dC dI g1 g2 g3 g4 g5 g6 g7 A aM m1 m2 m3 m4 m5 m6 m7 d n kd ht tk so lt sto ni ac bl i hi (σ.1, tb 14 σ.2)) hK hP hD hS 0 rfl zC_M.1 rfl rfl hl.1 rfl (Nat.le_of_ble_eq_true rfl) ⟨Nat.le_of_ble_eq_true rfl, Nat.le_of_ble_eq_true rfl⟩ d_M_rankOil_8 ⟨Nat.le_refl _, Nat.le_refl _⟩ (fun H locs hP hD hS => ?_)
  have hP : va_P (dC, dI) classes (wm g1 g2 g3 g4 g5 g6 g7 aM m1 m2 m3 m4 m5 m6 m7 d n kd ht tk (upd so i ((kLamp (ht i) (σ.1, tb 14 σ.2)).2).1) lt sto ni ac bl ((kLamp (ht i) (σ.1, tb 14 σ.2)).2).2) H := hP
  have hD : va_D A (wm g1 g2 g3 g4 g5 g6 g7 aM m1 m2 m3 m4 m5 m6 m7 d n kd ht tk (upd so i ((kLamp (ht i) (σ.1, tb 14 σ.2)).2).1) lt sto ni ac bl ((kLamp (ht i) (σ.1, tb 14 σ.2)).2).2) := hD
  refine lv_iconst (v := 1) hx hb d_M_rankOil_11 (by decide) ?_
  refine lv_iadd hx hb d_M_rankOil_12 ?_
  exact zri E hK hP hD hS d_M_rankOil_13
set_option maxHeartbeats 1000000 in
set_option maxRecDepth 100000 in
theorem c_M_rankDrum (l : Launch) (dC : Nat → ClassId) (dI : Nat → Nat → Nat) (g1 g2 g3 g4 g5 g6 g7 : ClassId) (A : Nat → Prop) (aM m1 m2 m3 m4 m5 m6 m7 : Nat) (d : Nat → Int32) (n : Nat) (kd ht tk so lt : Nat → Int32) (sto : Int64) (ni ac bl : Int32) (i : Nat) (hi : i < 60) (σ : zS) : zM l y_M_rankDrum b_M_rankDrum 2 (some (FieldType.int)) 3 63 [.ref aM, .int (nI i)] (dC, dI) (t7 g1 g2 g3 g4 g5 g6 g7) A (wm g1 g2 g3 g4 g5 g6 g7 aM m1 m2 m3 m4 m5 m6 m7 d n kd ht tk (upd so i σ.1) lt sto ni ac bl σ.2) (wm g1 g2 g3 g4 g5 g6 g7 aM m1 m2 m3 m4 m5 m6 m7 d n kd ht tk (upd so i (kDrum (ht i) σ).2.1) lt sto ni ac bl (kDrum (ht i) σ).2.2) (some (.int (kDrum (ht i) σ).1)) := by
  refine zM_of "CoastLampsModel" rfl (by decide) (Nat.le_of_ble_eq_true rfl) ?_
  intro p e s m below meth c ls E hP hK hD hS hl
  obtain ⟨hx, hb, hml, ho, hts, hr, hlk⟩ := id E
  have hl : lv_has ls 2 [(0, .ref aM), (1, .int (nI i))] := hl
  refine lv_aload_n hx hb d_M_rankDrum_0 rfl (lv_at hl 0 rfl) ?_
  refine lv_bipush (v := 44) hx hb d_M_rankDrum_1 (by decide) ?_
  refine zcV (As := [.int 44]) (rest := []) (ci := 11) E cy_M_begins kw_670 ks_9 kw_668 (c_M_begins l dC dI g1 g2 g3 g4 g5 g6 g7 A aM m1 m2 m3 m4 m5 m6 m7 d n kd ht tk (upd so i σ.1) lt sto ni ac bl σ.2 44) hK hP hD hS 0 rfl zC_M.1 rfl rfl hl.1 rfl (Nat.le_of_ble_eq_true rfl) ⟨Nat.le_of_ble_eq_true rfl, Nat.le_of_ble_eq_true rfl⟩ d_M_rankDrum_3 ⟨Nat.le_refl _, Nat.le_refl _⟩ (fun H locs hP hD hS => ?_)
  have hP : va_P (dC, dI) classes (wm g1 g2 g3 g4 g5 g6 g7 aM m1 m2 m3 m4 m5 m6 m7 d n kd ht tk (upd so i (σ.1, tb 44 σ.2).1) lt sto ni ac bl (σ.1, tb 44 σ.2).2) H := hP
  have hD : va_D A (wm g1 g2 g3 g4 g5 g6 g7 aM m1 m2 m3 m4 m5 m6 m7 d n kd ht tk (upd so i (σ.1, tb 44 σ.2).1) lt sto ni ac bl (σ.1, tb 44 σ.2).2) := hD
  refine lv_iconst (v := 2) hx hb d_M_rankDrum_6 (by decide) ?_
  refine lv_aload_n hx hb d_M_rankDrum_7 rfl (lv_at hl 0 rfl) ?_
  refine lv_iload_n hx hb d_M_rankDrum_8 rfl (lv_at hl 1 rfl) ?_
  refine zcV (As := [.int (nI i)]) (rest := [.int 2]) (ci := 11) E cy_M_rankOil kw_770 ks_34 kw_768 (c_M_rankOil l dC dI g1 g2 g3 g4 g5 g6 g7 A aM m1 m2 m3 m4 m5 m6 m7 d n kd ht tk so lt sto ni ac bl i hi (σ.1, tb 44 σ.2)) hK hP hD hS 0 rfl zC_M.1 rfl rfl hl.1 rfl (Nat.le_of_ble_eq_true rfl) ⟨Nat.le_of_ble_eq_true rfl, Nat.le_of_ble_eq_true rfl⟩ d_M_rankDrum_9 ⟨Nat.le_refl _, Nat.le_refl _⟩ (fun H locs hP hD hS => ?_)
  have hP : va_P (dC, dI) classes (wm g1 g2 g3 g4 g5 g6 g7 aM m1 m2 m3 m4 m5 m6 m7 d n kd ht tk (upd so i ((kOil (ht i) (σ.1, tb 44 σ.2)).2).1) lt sto ni ac bl ((kOil (ht i) (σ.1, tb 44 σ.2)).2).2) H := hP
  have hD : va_D A (wm g1 g2 g3 g4 g5 g6 g7 aM m1 m2 m3 m4 m5 m6 m7 d n kd ht tk (upd so i ((kOil (ht i) (σ.1, tb 44 σ.2)).2).1) lt sto ni ac bl ((kOil (ht i) (σ.1, tb 44 σ.2)).2).2) := hD
  refine lv_imul hx hb d_M_rankDrum_12 ?_
  exact zri E hK hP hD hS d_M_rankDrum_13
set_option maxHeartbeats 1000000 in
set_option maxRecDepth 100000 in
theorem c_M_rankFlare (l : Launch) (dC : Nat → ClassId) (dI : Nat → Nat → Nat) (g1 g2 g3 g4 g5 g6 g7 : ClassId) (A : Nat → Prop) (aM m1 m2 m3 m4 m5 m6 m7 : Nat) (d : Nat → Int32) (n : Nat) (kd ht tk so lt : Nat → Int32) (sto : Int64) (ni ac bl : Int32) (i : Nat) (hi : i < 60) (σ : zS) : zM l y_M_rankFlare b_M_rankFlare 2 (some (FieldType.int)) 2 42 [.ref aM, .int (nI i)] (dC, dI) (t7 g1 g2 g3 g4 g5 g6 g7) A (wm g1 g2 g3 g4 g5 g6 g7 aM m1 m2 m3 m4 m5 m6 m7 d n kd ht tk (upd so i σ.1) lt sto ni ac bl σ.2) (wm g1 g2 g3 g4 g5 g6 g7 aM m1 m2 m3 m4 m5 m6 m7 d n kd ht tk (upd so i (kFlare (ht i) σ).2.1) lt sto ni ac bl (kFlare (ht i) σ).2.2) (some (.int (kFlare (ht i) σ).1)) := by
  refine zM_of "CoastLampsModel" rfl (by decide) (Nat.le_of_ble_eq_true rfl) ?_
  intro p e s m below meth c ls E hP hK hD hS hl
  obtain ⟨hx, hb, hml, ho, hts, hr, hlk⟩ := id E
  have hl : lv_has ls 2 [(0, .ref aM), (1, .int (nI i))] := hl
  refine lv_aload_n hx hb d_M_rankFlare_0 rfl (lv_at hl 0 rfl) ?_
  refine lv_bipush (v := 74) hx hb d_M_rankFlare_1 (by decide) ?_
  refine zcV (As := [.int 74]) (rest := []) (ci := 11) E cy_M_begins kw_670 ks_9 kw_668 (c_M_begins l dC dI g1 g2 g3 g4 g5 g6 g7 A aM m1 m2 m3 m4 m5 m6 m7 d n kd ht tk (upd so i σ.1) lt sto ni ac bl σ.2 74) hK hP hD hS 0 rfl zC_M.1 rfl rfl hl.1 rfl (Nat.le_of_ble_eq_true rfl) ⟨Nat.le_of_ble_eq_true rfl, Nat.le_of_ble_eq_true rfl⟩ d_M_rankFlare_3 ⟨Nat.le_refl _, Nat.le_refl _⟩ (fun H locs hP hD hS => ?_)
  have hP : va_P (dC, dI) classes (wm g1 g2 g3 g4 g5 g6 g7 aM m1 m2 m3 m4 m5 m6 m7 d n kd ht tk (upd so i (σ.1, tb 74 σ.2).1) lt sto ni ac bl (σ.1, tb 74 σ.2).2) H := hP
  have hD : va_D A (wm g1 g2 g3 g4 g5 g6 g7 aM m1 m2 m3 m4 m5 m6 m7 d n kd ht tk (upd so i (σ.1, tb 74 σ.2).1) lt sto ni ac bl (σ.1, tb 74 σ.2).2) := hD
  refine lv_aload_n hx hb d_M_rankFlare_6 rfl (lv_at hl 0 rfl) ?_
  refine lv_iload_n hx hb d_M_rankFlare_7 rfl (lv_at hl 1 rfl) ?_
  refine zcV (As := [.int (nI i)]) (rest := []) (ci := 11) E cy_M_rankLamp kw_774 ks_35 kw_772 (c_M_rankLamp l dC dI g1 g2 g3 g4 g5 g6 g7 A aM m1 m2 m3 m4 m5 m6 m7 d n kd ht tk so lt sto ni ac bl i hi (σ.1, tb 74 σ.2)) hK hP hD hS 0 rfl zC_M.1 rfl rfl hl.1 rfl (Nat.le_of_ble_eq_true rfl) ⟨Nat.le_of_ble_eq_true rfl, Nat.le_of_ble_eq_true rfl⟩ d_M_rankFlare_8 ⟨Nat.le_refl _, Nat.le_refl _⟩ (fun H locs hP hD hS => ?_)
  have hP : va_P (dC, dI) classes (wm g1 g2 g3 g4 g5 g6 g7 aM m1 m2 m3 m4 m5 m6 m7 d n kd ht tk (upd so i ((kLamp (ht i) (σ.1, tb 74 σ.2)).2).1) lt sto ni ac bl ((kLamp (ht i) (σ.1, tb 74 σ.2)).2).2) H := hP
  have hD : va_D A (wm g1 g2 g3 g4 g5 g6 g7 aM m1 m2 m3 m4 m5 m6 m7 d n kd ht tk (upd so i ((kLamp (ht i) (σ.1, tb 74 σ.2)).2).1) lt sto ni ac bl ((kLamp (ht i) (σ.1, tb 74 σ.2)).2).2) := hD
  refine lv_aload_n hx hb d_M_rankFlare_11 rfl (lv_at hl 0 rfl) ?_
  refine zget (ci := 11) (fs := [.ref m1, .int (nI n), .ref m2, .ref m3, .ref m4, .ref m5, .ref m6, .long sto, .int ni, .int ac, .int bl, .ref m7, .int (nI (((kLamp (ht i) (σ.1, tb 74 σ.2)).2).2).2.1)]) E hK hP 0 rfl zC_M 5 (by decide) kw_595 (Or.inl rfl) rfl d_M_rankFlare_12 ?_
  refine lv_iload_n hx hb d_M_rankFlare_15 rfl (lv_at hl 1 rfl) ?_
  refine va_iald hx hb hK hP 5 4 rfl rfl (vp_in_nI hi (by decide)) d_M_rankFlare_16 ?_
  rw [nI_clamp (i31 hi)]
  rw [pk_us]
  refine lv_iconst (v := 5) hx hb d_M_rankFlare_17 (by decide) ?_
  refine lv_irem hx hb d_M_rankFlare_18 (by decide) ?_
  refine lv_iadd hx hb d_M_rankFlare_19 ?_
  exact zri E hK hP hD hS d_M_rankFlare_20
set_option maxHeartbeats 1000000 in
set_option maxRecDepth 100000 in
theorem c_M_rankOuter (l : Launch) (dC : Nat → ClassId) (dI : Nat → Nat → Nat) (g1 g2 g3 g4 g5 g6 g7 : ClassId) (A : Nat → Prop) (aM m1 m2 m3 m4 m5 m6 m7 : Nat) (d : Nat → Int32) (n : Nat) (kd ht tk so lt : Nat → Int32) (sto : Int64) (ni ac bl : Int32) (i : Nat) (hi : i < 60) (σ : zS) : zM l y_M_rankOuter b_M_rankOuter 2 (some (FieldType.int)) 3 63 [.ref aM, .int (nI i)] (dC, dI) (t7 g1 g2 g3 g4 g5 g6 g7) A (wm g1 g2 g3 g4 g5 g6 g7 aM m1 m2 m3 m4 m5 m6 m7 d n kd ht tk (upd so i σ.1) lt sto ni ac bl σ.2) (wm g1 g2 g3 g4 g5 g6 g7 aM m1 m2 m3 m4 m5 m6 m7 d n kd ht tk (upd so i (kOuter (ht i) (tk i) σ).2.1) lt sto ni ac bl (kOuter (ht i) (tk i) σ).2.2) (some (.int (kOuter (ht i) (tk i) σ).1)) := by
  refine zM_of "CoastLampsModel" rfl (by decide) (Nat.le_of_ble_eq_true rfl) ?_
  intro p e s m below meth c ls E hP hK hD hS hl
  obtain ⟨hx, hb, hml, ho, hts, hr, hlk⟩ := id E
  have hl : lv_has ls 2 [(0, .ref aM), (1, .int (nI i))] := hl
  refine lv_aload_n hx hb d_M_rankOuter_0 rfl (lv_at hl 0 rfl) ?_
  refine lv_bipush (v := 94) hx hb d_M_rankOuter_1 (by decide) ?_
  refine zcV (As := [.int 94]) (rest := []) (ci := 11) E cy_M_begins kw_670 ks_9 kw_668 (c_M_begins l dC dI g1 g2 g3 g4 g5 g6 g7 A aM m1 m2 m3 m4 m5 m6 m7 d n kd ht tk (upd so i σ.1) lt sto ni ac bl σ.2 94) hK hP hD hS 0 rfl zC_M.1 rfl rfl hl.1 rfl (Nat.le_of_ble_eq_true rfl) ⟨Nat.le_of_ble_eq_true rfl, Nat.le_of_ble_eq_true rfl⟩ d_M_rankOuter_3 ⟨Nat.le_refl _, Nat.le_refl _⟩ (fun H locs hP hD hS => ?_)
  have hP : va_P (dC, dI) classes (wm g1 g2 g3 g4 g5 g6 g7 aM m1 m2 m3 m4 m5 m6 m7 d n kd ht tk (upd so i (σ.1, tb 94 σ.2).1) lt sto ni ac bl (σ.1, tb 94 σ.2).2) H := hP
  have hD : va_D A (wm g1 g2 g3 g4 g5 g6 g7 aM m1 m2 m3 m4 m5 m6 m7 d n kd ht tk (upd so i (σ.1, tb 94 σ.2).1) lt sto ni ac bl (σ.1, tb 94 σ.2).2) := hD
  refine lv_aload_n hx hb d_M_rankOuter_6 rfl (lv_at hl 0 rfl) ?_
  refine lv_iload_n hx hb d_M_rankOuter_7 rfl (lv_at hl 1 rfl) ?_
  refine zcV (As := [.int (nI i)]) (rest := []) (ci := 11) E cy_M_rankFlare kw_786 ks_38 kw_784 (c_M_rankFlare l dC dI g1 g2 g3 g4 g5 g6 g7 A aM m1 m2 m3 m4 m5 m6 m7 d n kd ht tk so lt sto ni ac bl i hi (σ.1, tb 94 σ.2)) hK hP hD hS 0 rfl zC_M.1 rfl rfl hl.1 rfl (Nat.le_of_ble_eq_true rfl) ⟨Nat.le_of_ble_eq_true rfl, Nat.le_of_ble_eq_true rfl⟩ d_M_rankOuter_8 ⟨Nat.le_refl _, Nat.le_refl _⟩ (fun H locs hP hD hS => ?_)
  have hP : va_P (dC, dI) classes (wm g1 g2 g3 g4 g5 g6 g7 aM m1 m2 m3 m4 m5 m6 m7 d n kd ht tk (upd so i ((kFlare (ht i) (σ.1, tb 94 σ.2)).2).1) lt sto ni ac bl ((kFlare (ht i) (σ.1, tb 94 σ.2)).2).2) H := hP
  have hD : va_D A (wm g1 g2 g3 g4 g5 g6 g7 aM m1 m2 m3 m4 m5 m6 m7 d n kd ht tk (upd so i ((kFlare (ht i) (σ.1, tb 94 σ.2)).2).1) lt sto ni ac bl ((kFlare (ht i) (σ.1, tb 94 σ.2)).2).2) := hD
  refine lv_aload_n hx hb d_M_rankOuter_11 rfl (lv_at hl 0 rfl) ?_
  refine zget (ci := 11) (fs := [.ref m1, .int (nI n), .ref m2, .ref m3, .ref m4, .ref m5, .ref m6, .long sto, .int ni, .int ac, .int bl, .ref m7, .int (nI (((kFlare (ht i) (σ.1, tb 94 σ.2)).2).2).2.1)]) E hK hP 0 rfl zC_M 4 (by decide) kw_594 (Or.inl rfl) rfl d_M_rankOuter_12 ?_
  refine lv_iload_n hx hb d_M_rankOuter_15 rfl (lv_at hl 1 rfl) ?_
  refine va_iald hx hb hK hP 4 3 rfl rfl (vp_in_nI hi (by decide)) d_M_rankOuter_16 ?_
  rw [nI_clamp (i31 hi)]
  refine lv_iconst (v := 3) hx hb d_M_rankOuter_17 (by decide) ?_
  refine lv_irem hx hb d_M_rankOuter_18 (by decide) ?_
  refine lv_iadd hx hb d_M_rankOuter_19 ?_
  exact zri E hK hP hD hS d_M_rankOuter_20
set_option maxHeartbeats 1000000 in
set_option maxRecDepth 100000 in
theorem c_M_toneOil (l : Launch) (dC : Nat → ClassId) (dI : Nat → Nat → Nat) (g1 g2 g3 g4 g5 g6 g7 : ClassId) (A : Nat → Prop) (aM m1 m2 m3 m4 m5 m6 m7 : Nat) (d : Nat → Int32) (n : Nat) (kd ht tk so lt : Nat → Int32) (sto : Int64) (ni ac bl : Int32) (i : Nat) (hi : i < 60) (σ : zS) : zM l y_M_toneOil b_M_toneOil 1 (some (FieldType.int)) 1 21 [.ref aM] (dC, dI) (t7 g1 g2 g3 g4 g5 g6 g7) A (wm g1 g2 g3 g4 g5 g6 g7 aM m1 m2 m3 m4 m5 m6 m7 d n kd ht tk (upd so i σ.1) lt sto ni ac bl σ.2) (wm g1 g2 g3 g4 g5 g6 g7 aM m1 m2 m3 m4 m5 m6 m7 d n kd ht tk (upd so i (oOil σ).2.1) lt sto ni ac bl (oOil σ).2.2) (some (.int (oOil σ).1)) := by
  refine zM_of "CoastLampsModel" rfl (by decide) (Nat.le_of_ble_eq_true rfl) ?_
  intro p e s m below meth c ls E hP hK hD hS hl
  obtain ⟨hx, hb, hml, ho, hts, hr, hlk⟩ := id E
  have hl : lv_has ls 1 [(0, .ref aM)] := hl
  refine lv_aload_n hx hb d_M_toneOil_0 rfl (lv_at hl 0 rfl) ?_
  refine lv_bipush (v := 16) hx hb d_M_toneOil_1 (by decide) ?_
  refine zcV (As := [.int 16]) (rest := []) (ci := 11) E cy_M_begins kw_670 ks_9 kw_668 (c_M_begins l dC dI g1 g2 g3 g4 g5 g6 g7 A aM m1 m2 m3 m4 m5 m6 m7 d n kd ht tk (upd so i σ.1) lt sto ni ac bl σ.2 16) hK hP hD hS 0 rfl zC_M.1 rfl rfl hl.1 rfl (Nat.le_of_ble_eq_true rfl) ⟨Nat.le_of_ble_eq_true rfl, Nat.le_of_ble_eq_true rfl⟩ d_M_toneOil_3 ⟨Nat.le_refl _, Nat.le_refl _⟩ (fun H locs hP hD hS => ?_)
  have hP : va_P (dC, dI) classes (wm g1 g2 g3 g4 g5 g6 g7 aM m1 m2 m3 m4 m5 m6 m7 d n kd ht tk (upd so i (σ.1, tb 16 σ.2).1) lt sto ni ac bl (σ.1, tb 16 σ.2).2) H := hP
  have hD : va_D A (wm g1 g2 g3 g4 g5 g6 g7 aM m1 m2 m3 m4 m5 m6 m7 d n kd ht tk (upd so i (σ.1, tb 16 σ.2).1) lt sto ni ac bl (σ.1, tb 16 σ.2).2) := hD
  refine lv_bipush (v := 7) hx hb d_M_toneOil_6 (by decide) ?_
  exact zri E hK hP hD hS d_M_toneOil_8
set_option maxHeartbeats 1000000 in
set_option maxRecDepth 100000 in
theorem c_M_toneDrum (l : Launch) (dC : Nat → ClassId) (dI : Nat → Nat → Nat) (g1 g2 g3 g4 g5 g6 g7 : ClassId) (A : Nat → Prop) (aM m1 m2 m3 m4 m5 m6 m7 : Nat) (d : Nat → Int32) (n : Nat) (kd ht tk so lt : Nat → Int32) (sto : Int64) (ni ac bl : Int32) (i : Nat) (hi : i < 60) (σ : zS) : zM l y_M_toneDrum b_M_toneDrum 1 (some (FieldType.int)) 2 41 [.ref aM] (dC, dI) (t7 g1 g2 g3 g4 g5 g6 g7) A (wm g1 g2 g3 g4 g5 g6 g7 aM m1 m2 m3 m4 m5 m6 m7 d n kd ht tk (upd so i σ.1) lt sto ni ac bl σ.2) (wm g1 g2 g3 g4 g5 g6 g7 aM m1 m2 m3 m4 m5 m6 m7 d n kd ht tk (upd so i (oDrum d σ).2.1) lt sto ni ac bl (oDrum d σ).2.2) (some (.int (oDrum d σ).1)) := by
  refine zM_of "CoastLampsModel" rfl (by decide) (Nat.le_of_ble_eq_true rfl) ?_
  intro p e s m below meth c ls E hP hK hD hS hl
  obtain ⟨hx, hb, hml, ho, hts, hr, hlk⟩ := id E
  have hl : lv_has ls 1 [(0, .ref aM)] := hl
  refine lv_aload_n hx hb d_M_toneDrum_0 rfl (lv_at hl 0 rfl) ?_
  refine lv_bipush (v := 46) hx hb d_M_toneDrum_1 (by decide) ?_
  refine zcV (As := [.int 46]) (rest := []) (ci := 11) E cy_M_begins kw_670 ks_9 kw_668 (c_M_begins l dC dI g1 g2 g3 g4 g5 g6 g7 A aM m1 m2 m3 m4 m5 m6 m7 d n kd ht tk (upd so i σ.1) lt sto ni ac bl σ.2 46) hK hP hD hS 0 rfl zC_M.1 rfl rfl hl.1 rfl (Nat.le_of_ble_eq_true rfl) ⟨Nat.le_of_ble_eq_true rfl, Nat.le_of_ble_eq_true rfl⟩ d_M_toneDrum_3 ⟨Nat.le_refl _, Nat.le_refl _⟩ (fun H locs hP hD hS => ?_)
  have hP : va_P (dC, dI) classes (wm g1 g2 g3 g4 g5 g6 g7 aM m1 m2 m3 m4 m5 m6 m7 d n kd ht tk (upd so i (σ.1, tb 46 σ.2).1) lt sto ni ac bl (σ.1, tb 46 σ.2).2) H := hP
  have hD : va_D A (wm g1 g2 g3 g4 g5 g6 g7 aM m1 m2 m3 m4 m5 m6 m7 d n kd ht tk (upd so i (σ.1, tb 46 σ.2).1) lt sto ni ac bl (σ.1, tb 46 σ.2).2) := hD
  refine lv_aload_n hx hb d_M_toneDrum_6 rfl (lv_at hl 0 rfl) ?_
  refine zcV (As := []) (rest := []) (ci := 11) E cy_M_toneOil kw_802 ks_42 kw_800 (c_M_toneOil l dC dI g1 g2 g3 g4 g5 g6 g7 A aM m1 m2 m3 m4 m5 m6 m7 d n kd ht tk so lt sto ni ac bl i hi (σ.1, tb 46 σ.2)) hK hP hD hS 0 rfl zC_M.1 rfl rfl hl.1 rfl (Nat.le_of_ble_eq_true rfl) ⟨Nat.le_of_ble_eq_true rfl, Nat.le_of_ble_eq_true rfl⟩ d_M_toneDrum_7 ⟨Nat.le_refl _, Nat.le_refl _⟩ (fun H locs hP hD hS => ?_)
  have hP : va_P (dC, dI) classes (wm g1 g2 g3 g4 g5 g6 g7 aM m1 m2 m3 m4 m5 m6 m7 d n kd ht tk (upd so i ((oOil (σ.1, tb 46 σ.2)).2).1) lt sto ni ac bl ((oOil (σ.1, tb 46 σ.2)).2).2) H := hP
  have hD : va_D A (wm g1 g2 g3 g4 g5 g6 g7 aM m1 m2 m3 m4 m5 m6 m7 d n kd ht tk (upd so i ((oOil (σ.1, tb 46 σ.2)).2).1) lt sto ni ac bl ((oOil (σ.1, tb 46 σ.2)).2).2) := hD
  refine lv_aload_n hx hb d_M_toneDrum_10 rfl (lv_at hl 0 rfl) ?_
  refine zget (ci := 11) (fs := [.ref m1, .int (nI n), .ref m2, .ref m3, .ref m4, .ref m5, .ref m6, .long sto, .int ni, .int ac, .int bl, .ref m7, .int (nI (((oOil (σ.1, tb 46 σ.2)).2).2).2.1)]) E hK hP 0 rfl zC_M 0 (by decide) kw_590 (Or.inl rfl) rfl d_M_toneDrum_11 ?_
  refine lv_iconst (v := 5) hx hb d_M_toneDrum_14 (by decide) ?_
  refine va_iald hx hb hK hP 1 0 rfl rfl (by unfold vp_in; decide) d_M_toneDrum_15 ?_
  rw [show (5 : Int32).toNatClampNeg = 5 from by decide]
  refine lv_iadd hx hb d_M_toneDrum_16 ?_
  exact zri E hK hP hD hS d_M_toneDrum_17
set_option maxHeartbeats 1000000 in
set_option maxRecDepth 100000 in
theorem c_M_toneFlare (l : Launch) (dC : Nat → ClassId) (dI : Nat → Nat → Nat) (g1 g2 g3 g4 g5 g6 g7 : ClassId) (A : Nat → Prop) (aM m1 m2 m3 m4 m5 m6 m7 : Nat) (d : Nat → Int32) (n : Nat) (kd ht tk so lt : Nat → Int32) (sto : Int64) (ni ac bl : Int32) (i : Nat) (hi : i < 60) (σ : zS) : zM l y_M_toneFlare b_M_toneFlare 1 (some (FieldType.int)) 1 21 [.ref aM] (dC, dI) (t7 g1 g2 g3 g4 g5 g6 g7) A (wm g1 g2 g3 g4 g5 g6 g7 aM m1 m2 m3 m4 m5 m6 m7 d n kd ht tk (upd so i σ.1) lt sto ni ac bl σ.2) (wm g1 g2 g3 g4 g5 g6 g7 aM m1 m2 m3 m4 m5 m6 m7 d n kd ht tk (upd so i (oFlare σ).2.1) lt sto ni ac bl (oFlare σ).2.2) (some (.int (oFlare σ).1)) := by
  refine zM_of "CoastLampsModel" rfl (by decide) (Nat.le_of_ble_eq_true rfl) ?_
  intro p e s m below meth c ls E hP hK hD hS hl
  obtain ⟨hx, hb, hml, ho, hts, hr, hlk⟩ := id E
  have hl : lv_has ls 1 [(0, .ref aM)] := hl
  refine lv_aload_n hx hb d_M_toneFlare_0 rfl (lv_at hl 0 rfl) ?_
  refine lv_bipush (v := 76) hx hb d_M_toneFlare_1 (by decide) ?_
  refine zcV (As := [.int 76]) (rest := []) (ci := 11) E cy_M_begins kw_670 ks_9 kw_668 (c_M_begins l dC dI g1 g2 g3 g4 g5 g6 g7 A aM m1 m2 m3 m4 m5 m6 m7 d n kd ht tk (upd so i σ.1) lt sto ni ac bl σ.2 76) hK hP hD hS 0 rfl zC_M.1 rfl rfl hl.1 rfl (Nat.le_of_ble_eq_true rfl) ⟨Nat.le_of_ble_eq_true rfl, Nat.le_of_ble_eq_true rfl⟩ d_M_toneFlare_3 ⟨Nat.le_refl _, Nat.le_refl _⟩ (fun H locs hP hD hS => ?_)
  have hP : va_P (dC, dI) classes (wm g1 g2 g3 g4 g5 g6 g7 aM m1 m2 m3 m4 m5 m6 m7 d n kd ht tk (upd so i (σ.1, tb 76 σ.2).1) lt sto ni ac bl (σ.1, tb 76 σ.2).2) H := hP
  have hD : va_D A (wm g1 g2 g3 g4 g5 g6 g7 aM m1 m2 m3 m4 m5 m6 m7 d n kd ht tk (upd so i (σ.1, tb 76 σ.2).1) lt sto ni ac bl (σ.1, tb 76 σ.2).2) := hD
  refine lv_bipush (v := 9) hx hb d_M_toneFlare_6 (by decide) ?_
  exact zri E hK hP hD hS d_M_toneFlare_8
