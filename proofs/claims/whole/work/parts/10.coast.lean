set_option maxHeartbeats 4000000 in
set_option maxRecDepth 100000 in
theorem c_Coast_begins (l : Launch) (dC : Nat → ClassId) (dI : Nat → Nat → Nat) (c1 c2 c3 : ClassId) (A : Nat → Prop) (aC aD aE : Nat) (d : Nat → Int32) (rest : va_W) (t : zT) (kd mb x : Int32) (hx0 : 10 * kd + mb = x) : zM l y_Coast_begins b_Coast_begins 3 none 0 0 [.ref aC, .int kd, .int mb] (dC, dI) (t3 c1 c2 c3) A (wc c1 c2 aC aD aE d rest t) (wc c1 c2 aC aD aE d rest (tb x t)) none := by
  subst hx0
  by_cases h1 : t.2.1 < 1000
  · have e9 : tb (10 * kd + mb) t = (upd t.1 t.2.1 (10 * kd + mb), ⟨t.2.1 + 1, h1⟩) := by unfold tb; rw [dif_pos h1]
    rw [e9]
    refine zM_of "CoastLamps$Coast" rfl (by decide) (Nat.le_of_ble_eq_true rfl) ?_
    intro p e s m below meth c ls E hP hK hD hS hl
    obtain ⟨hx, hb, hml, ho, hts, hr, hlk⟩ := id E
    have hl : lv_has ls 3 [(0, .ref aC), (1, .int kd), (2, .int mb)] := hl
    refine lv_aload_n hx hb d_Coast_begins_0 rfl (lv_at hl 0 rfl) ?_
    refine zget (ci := 9) (fs := [.ref aD, .ref aE, .int (nI t.2.1)]) E hK hP 0 rfl zC_Coast 2 (by decide) kw_31 (Or.inl rfl) rfl d_Coast_begins_1 ?_
    refine lv_if_lt (tgt := 44) hx hb d_Coast_begins_4 (by decide) (fun h9 => absurd h9 (nI_pos (nI_w t))) (fun _ => ?_)
    refine lv_aload_n hx hb d_Coast_begins_7 rfl (lv_at hl 0 rfl) ?_
    refine zget (ci := 9) (fs := [.ref aD, .ref aE, .int (nI t.2.1)]) E hK hP 0 rfl zC_Coast 2 (by decide) kw_31 (Or.inl rfl) rfl d_Coast_begins_8 ?_
    refine lv_aload_n hx hb d_Coast_begins_11 rfl (lv_at hl 0 rfl) ?_
    refine zget (ci := 9) (fs := [.ref aD, .ref aE, .int (nI t.2.1)]) E hK hP 0 rfl zC_Coast 1 (by decide) kw_30 (Or.inl rfl) rfl d_Coast_begins_12 ?_
    refine va_alen (x := (1000, .inl (t.1))) hx hb hK hP 2 1 rfl rfl (v := nI 1000) rfl d_Coast_begins_15 ?_
    refine lv_icmp_ge (tgt := 44) hx hb d_Coast_begins_16 (by decide) (fun h9 => absurd h9 (nI_ge h1 (by decide))) (fun _ => ?_)
    refine lv_aload_n hx hb d_Coast_begins_19 rfl (lv_at hl 0 rfl) ?_
    refine zget (ci := 9) (fs := [.ref aD, .ref aE, .int (nI t.2.1)]) E hK hP 0 rfl zC_Coast 1 (by decide) kw_30 (Or.inl rfl) rfl d_Coast_begins_20 ?_
    refine lv_aload_n hx hb d_Coast_begins_23 rfl (lv_at hl 0 rfl) ?_
    refine zget (ci := 9) (fs := [.ref aD, .ref aE, .int (nI t.2.1)]) E hK hP 0 rfl zC_Coast 2 (by decide) kw_31 (Or.inl rfl) rfl d_Coast_begins_24 ?_
    refine lv_bipush (v := 10) hx hb d_Coast_begins_27 (by decide) ?_
    refine lv_iload_n hx hb d_Coast_begins_29 rfl (lv_at hl 1 rfl) ?_
    refine lv_imul hx hb d_Coast_begins_30 ?_
    refine lv_iload_n hx hb d_Coast_begins_31 rfl (lv_at hl 2 rfl) ?_
    refine lv_iadd hx hb d_Coast_begins_32 ?_
    refine va_iast hx hb hK hP hD hS 2 1 rfl rfl (vp_in_nI h1 (by decide)) d_Coast_begins_33 (fun H locs hP hD hS => ?_)
    rw [nI_clamp (nI_w t)] at hP hD
    have hP : va_P (dC, dI) classes ((aC, .inr (9, [.ref aD, .ref aE, .int (nI t.2.1)])) :: (aD, .inl (c1, 8, .inl (d))) :: (aE, .inl (c2, 1000, .inl (upd (t.1) (t.2.1) ((10 * kd) + mb)))) :: rest) H := hP
    have hD : va_D A ((aC, .inr (9, [.ref aD, .ref aE, .int (nI t.2.1)])) :: (aD, .inl (c1, 8, .inl (d))) :: (aE, .inl (c2, 1000, .inl (upd (t.1) (t.2.1) ((10 * kd) + mb)))) :: rest) := hD
    refine lv_aload_n hx hb d_Coast_begins_34 rfl (lv_at hl 0 rfl) ?_
    refine lv_dup hx hb d_Coast_begins_35 rfl ?_
    refine zget (ci := 9) (fs := [.ref aD, .ref aE, .int (nI t.2.1)]) E hK hP 0 rfl zC_Coast 2 (by decide) kw_31 (Or.inl rfl) rfl d_Coast_begins_36 ?_
    refine lv_iconst (v := 1) hx hb d_Coast_begins_39 (by decide) ?_
    refine lv_iadd hx hb d_Coast_begins_40 ?_
    rw [nI_1]
    refine zput (ci := 9) (fs := [.ref aD, .ref aE, .int (nI t.2.1)]) (ty := .int) (v := .int (nI (t.2.1 + 1))) (ws2 := (aC, .inr (9, [.ref aD, .ref aE, .int (nI (t.2.1 + 1))])) :: (aD, .inl (c1, 8, .inl (d))) :: (aE, .inl (c2, 1000, .inl (upd (t.1) (t.2.1) ((10 * kd) + mb)))) :: rest) E hK hP hD hS 0 rfl zC_Coast t_Coast o_Coast n_Coast 2 (by decide) kw_31 (Or.inl rfl) rfl rfl rfl rfl (Nat.le_of_ble_eq_true rfl) d_Coast_begins_41 (rfl) (fun H locs hP hD hS => ?_)
    exact zrv E hK hP hD hS d_Coast_begins_44
  · have e9 : tb (10 * kd + mb) t = t := by unfold tb; rw [dif_neg h1]
    rw [e9]
    refine zM_of "CoastLamps$Coast" rfl (by decide) (Nat.le_of_ble_eq_true rfl) ?_
    intro p e s m below meth c ls E hP hK hD hS hl
    obtain ⟨hx, hb, hml, ho, hts, hr, hlk⟩ := id E
    have hl : lv_has ls 3 [(0, .ref aC), (1, .int kd), (2, .int mb)] := hl
    refine lv_aload_n hx hb d_Coast_begins_0 rfl (lv_at hl 0 rfl) ?_
    refine zget (ci := 9) (fs := [.ref aD, .ref aE, .int (nI t.2.1)]) E hK hP 0 rfl zC_Coast 2 (by decide) kw_31 (Or.inl rfl) rfl d_Coast_begins_1 ?_
    refine lv_if_lt (tgt := 44) hx hb d_Coast_begins_4 (by decide) (fun h9 => absurd h9 (nI_pos (nI_w t))) (fun _ => ?_)
    refine lv_aload_n hx hb d_Coast_begins_7 rfl (lv_at hl 0 rfl) ?_
    refine zget (ci := 9) (fs := [.ref aD, .ref aE, .int (nI t.2.1)]) E hK hP 0 rfl zC_Coast 2 (by decide) kw_31 (Or.inl rfl) rfl d_Coast_begins_8 ?_
    refine lv_aload_n hx hb d_Coast_begins_11 rfl (lv_at hl 0 rfl) ?_
    refine zget (ci := 9) (fs := [.ref aD, .ref aE, .int (nI t.2.1)]) E hK hP 0 rfl zC_Coast 1 (by decide) kw_30 (Or.inl rfl) rfl d_Coast_begins_12 ?_
    refine va_alen (x := (1000, .inl (t.1))) hx hb hK hP 2 1 rfl rfl (v := nI 1000) rfl d_Coast_begins_15 ?_
    refine lv_icmp_ge (tgt := 44) hx hb d_Coast_begins_16 (by decide) (fun _ => ?_) (fun h9 => absurd (nI_le (by omega) (nI_w t)) h9)
    exact zrv E hK hP hD hS d_Coast_begins_44
set_option maxHeartbeats 4000000 in
set_option maxRecDepth 100000 in
theorem c_Coast_dialed (l : Launch) (dC : Nat → ClassId) (dI : Nat → Nat → Nat) (c1 c2 c3 : ClassId) (A : Nat → Prop) (aC aD aE : Nat) (d : Nat → Int32) (rest : va_W) (t : zT) (x : Int32) (i : Nat) (hx0 : x = nI i) (hi : i < 8) : zM l y_Coast_dialed b_Coast_dialed 2 (some (FieldType.int)) 0 0 [.ref aC, .int x] (dC, dI) (t3 c1 c2 c3) A (wc c1 c2 aC aD aE d rest t) (wc c1 c2 aC aD aE d rest t) (some (.int (d i))) := by
  subst hx0
  refine zM_of "CoastLamps$Coast" rfl (by decide) (Nat.le_of_ble_eq_true rfl) ?_
  intro p e s m below meth c ls E hP hK hD hS hl
  obtain ⟨hx, hb, hml, ho, hts, hr, hlk⟩ := id E
  have hl : lv_has ls 2 [(0, .ref aC), (1, .int (nI i))] := hl
  refine lv_iload_n hx hb d_Coast_dialed_0 rfl (lv_at hl 1 rfl) ?_
  refine lv_if_lt (tgt := 22) hx hb d_Coast_dialed_1 (by decide) (fun h9 => absurd h9 (nI_pos (by omega))) (fun _ => ?_)
  refine lv_iload_n hx hb d_Coast_dialed_4 rfl (lv_at hl 1 rfl) ?_
  refine lv_aload_n hx hb d_Coast_dialed_5 rfl (lv_at hl 0 rfl) ?_
  refine zget (ci := 9) (fs := [.ref aD, .ref aE, .int (nI t.2.1)]) E hK hP 0 rfl zC_Coast 0 (by decide) kw_29 (Or.inl rfl) rfl d_Coast_dialed_6 ?_
  refine va_alen (x := (8, .inl (d))) hx hb hK hP 1 0 rfl rfl (v := nI 8) rfl d_Coast_dialed_9 ?_
  refine lv_icmp_ge (tgt := 22) hx hb d_Coast_dialed_10 (by decide) (fun h9 => absurd h9 (nI_ge hi (by decide))) (fun _ => ?_)
  refine lv_aload_n hx hb d_Coast_dialed_13 rfl (lv_at hl 0 rfl) ?_
  refine zget (ci := 9) (fs := [.ref aD, .ref aE, .int (nI t.2.1)]) E hK hP 0 rfl zC_Coast 0 (by decide) kw_29 (Or.inl rfl) rfl d_Coast_dialed_14 ?_
  refine lv_iload_n hx hb d_Coast_dialed_17 rfl (lv_at hl 1 rfl) ?_
  refine va_iald hx hb hK hP 1 0 rfl rfl (vp_in_nI hi (by decide)) d_Coast_dialed_18 ?_
  rw [nI_clamp (by omega)]
  refine lv_goto (tgt := 23) hx hb d_Coast_dialed_19 (by decide) ?_
  exact zri E hK hP hD hS d_Coast_dialed_23
set_option maxHeartbeats 4000000 in
set_option maxRecDepth 100000 in
theorem c_Coast_turn (l : Launch) (dC : Nat → ClassId) (dI : Nat → Nat → Nat) (c1 c2 c3 : ClassId) (A : Nat → Prop) (aC aD aE : Nat) (d : Nat → Int32) (rest : va_W) (t : zT) (x v : Int32) (i : Nat) (hx0 : x = nI i) (hi : i < 8) : zM l y_Coast_turn b_Coast_turn 3 none 0 0 [.ref aC, .int x, .int v] (dC, dI) (t3 c1 c2 c3) A (wc c1 c2 aC aD aE d rest t) (wc c1 c2 aC aD aE (upd d i v) rest t) none := by
  subst hx0
  refine zM_of "CoastLamps$Coast" rfl (by decide) (Nat.le_of_ble_eq_true rfl) ?_
  intro p e s m below meth c ls E hP hK hD hS hl
  obtain ⟨hx, hb, hml, ho, hts, hr, hlk⟩ := id E
  have hl : lv_has ls 3 [(0, .ref aC), (1, .int (nI i)), (2, .int v)] := hl
  refine lv_iload_n hx hb d_Coast_turn_0 rfl (lv_at hl 1 rfl) ?_
  refine lv_if_lt (tgt := 20) hx hb d_Coast_turn_1 (by decide) (fun h9 => absurd h9 (nI_pos (by omega))) (fun _ => ?_)
  refine lv_iload_n hx hb d_Coast_turn_4 rfl (lv_at hl 1 rfl) ?_
  refine lv_aload_n hx hb d_Coast_turn_5 rfl (lv_at hl 0 rfl) ?_
  refine zget (ci := 9) (fs := [.ref aD, .ref aE, .int (nI t.2.1)]) E hK hP 0 rfl zC_Coast 0 (by decide) kw_29 (Or.inl rfl) rfl d_Coast_turn_6 ?_
  refine va_alen (x := (8, .inl (d))) hx hb hK hP 1 0 rfl rfl (v := nI 8) rfl d_Coast_turn_9 ?_
  refine lv_icmp_ge (tgt := 20) hx hb d_Coast_turn_10 (by decide) (fun h9 => absurd h9 (nI_ge hi (by decide))) (fun _ => ?_)
  refine lv_aload_n hx hb d_Coast_turn_13 rfl (lv_at hl 0 rfl) ?_
  refine zget (ci := 9) (fs := [.ref aD, .ref aE, .int (nI t.2.1)]) E hK hP 0 rfl zC_Coast 0 (by decide) kw_29 (Or.inl rfl) rfl d_Coast_turn_14 ?_
  refine lv_iload_n hx hb d_Coast_turn_17 rfl (lv_at hl 1 rfl) ?_
  refine lv_iload_n hx hb d_Coast_turn_18 rfl (lv_at hl 2 rfl) ?_
  refine va_iast hx hb hK hP hD hS 1 0 rfl rfl (vp_in_nI hi (by decide)) d_Coast_turn_19 (fun H locs hP hD hS => ?_)
  rw [nI_clamp (by omega)] at hP hD
  have hP : va_P (dC, dI) classes ((aC, .inr (9, [.ref aD, .ref aE, .int (nI t.2.1)])) :: (aD, .inl (c1, 8, .inl (upd (d) (i) (v)))) :: (aE, .inl (c2, 1000, .inl (t.1))) :: rest) H := hP
  have hD : va_D A ((aC, .inr (9, [.ref aD, .ref aE, .int (nI t.2.1)])) :: (aD, .inl (c1, 8, .inl (upd (d) (i) (v)))) :: (aE, .inl (c2, 1000, .inl (t.1))) :: rest) := hD
  exact zrv E hK hP hD hS d_Coast_turn_20
set_option maxHeartbeats 4000000 in
set_option maxRecDepth 100000 in
theorem c_Coast_entry (l : Launch) (dC : Nat → ClassId) (dI : Nat → Nat → Nat) (c1 c2 c3 : ClassId) (A : Nat → Prop) (aC aD aE : Nat) (d : Nat → Int32) (rest : va_W) (t : zT) (x : Int32) (i : Nat) (hx0 : x = nI i) (hi : i < 1000) : zM l y_Coast_entry b_Coast_entry 2 (some (FieldType.int)) 0 0 [.ref aC, .int x] (dC, dI) (t3 c1 c2 c3) A (wc c1 c2 aC aD aE d rest t) (wc c1 c2 aC aD aE d rest t) (some (.int (t.1 i))) := by
  subst hx0
  refine zM_of "CoastLamps$Coast" rfl (by decide) (Nat.le_of_ble_eq_true rfl) ?_
  intro p e s m below meth c ls E hP hK hD hS hl
  obtain ⟨hx, hb, hml, ho, hts, hr, hlk⟩ := id E
  have hl : lv_has ls 2 [(0, .ref aC), (1, .int (nI i))] := hl
  refine lv_iload_n hx hb d_Coast_entry_0 rfl (lv_at hl 1 rfl) ?_
  refine lv_if_lt (tgt := 22) hx hb d_Coast_entry_1 (by decide) (fun h9 => absurd h9 (nI_pos (by omega))) (fun _ => ?_)
  refine lv_iload_n hx hb d_Coast_entry_4 rfl (lv_at hl 1 rfl) ?_
  refine lv_aload_n hx hb d_Coast_entry_5 rfl (lv_at hl 0 rfl) ?_
  refine zget (ci := 9) (fs := [.ref aD, .ref aE, .int (nI t.2.1)]) E hK hP 0 rfl zC_Coast 1 (by decide) kw_30 (Or.inl rfl) rfl d_Coast_entry_6 ?_
  refine va_alen (x := (1000, .inl (t.1))) hx hb hK hP 2 1 rfl rfl (v := nI 1000) rfl d_Coast_entry_9 ?_
  refine lv_icmp_ge (tgt := 22) hx hb d_Coast_entry_10 (by decide) (fun h9 => absurd h9 (nI_ge hi (by decide))) (fun _ => ?_)
  refine lv_aload_n hx hb d_Coast_entry_13 rfl (lv_at hl 0 rfl) ?_
  refine zget (ci := 9) (fs := [.ref aD, .ref aE, .int (nI t.2.1)]) E hK hP 0 rfl zC_Coast 1 (by decide) kw_30 (Or.inl rfl) rfl d_Coast_entry_14 ?_
  refine lv_iload_n hx hb d_Coast_entry_17 rfl (lv_at hl 1 rfl) ?_
  refine va_iald hx hb hK hP 2 1 rfl rfl (vp_in_nI hi (by decide)) d_Coast_entry_18 ?_
  rw [nI_clamp (by omega)]
  refine lv_goto (tgt := 23) hx hb d_Coast_entry_19 (by decide) ?_
  exact zri E hK hP hD hS d_Coast_entry_23
set_option maxHeartbeats 4000000 in
set_option maxRecDepth 100000 in
theorem c_Coast_wipe (l : Launch) (dC : Nat → ClassId) (dI : Nat → Nat → Nat) (c1 c2 c3 : ClassId) (A : Nat → Prop) (aC aD aE : Nat) (d : Nat → Int32) (rest : va_W) (t : zT) : zM l y_Coast_wipe b_Coast_wipe 1 none 0 0 [.ref aC] (dC, dI) (t3 c1 c2 c3) A (wc c1 c2 aC aD aE d rest t) (wc c1 c2 aC aD aE d rest (t.1, ⟨0, by decide⟩)) none := by
  refine zM_of "CoastLamps$Coast" rfl (by decide) (Nat.le_of_ble_eq_true rfl) ?_
  intro p e s m below meth c ls E hP hK hD hS hl
  obtain ⟨hx, hb, hml, ho, hts, hr, hlk⟩ := id E
  have hl : lv_has ls 1 [(0, .ref aC)] := hl
  refine lv_aload_n hx hb d_Coast_wipe_0 rfl (lv_at hl 0 rfl) ?_
  refine lv_iconst (v := 0) hx hb d_Coast_wipe_1 (by decide) ?_
  rw [show (0 : Int32) = nI 0 from nI_0.symm]
  refine zput (ci := 9) (fs := [.ref aD, .ref aE, .int (nI t.2.1)]) (ty := .int) (v := .int (nI 0)) (ws2 := (aC, .inr (9, [.ref aD, .ref aE, .int (nI 0)])) :: (aD, .inl (c1, 8, .inl (d))) :: (aE, .inl (c2, 1000, .inl (t.1))) :: rest) E hK hP hD hS 0 rfl zC_Coast t_Coast o_Coast n_Coast 2 (by decide) kw_31 (Or.inl rfl) rfl rfl rfl rfl (Nat.le_of_ble_eq_true rfl) d_Coast_wipe_2 (rfl) (fun H locs hP hD hS => ?_)
  exact zrv E hK hP hD hS d_Coast_wipe_5
