set_option maxHeartbeats 1000000 in
set_option maxRecDepth 100000 in
theorem c_M_isLamp (l : Launch) (dC : Nat → ClassId) (dI : Nat → Nat → Nat) (g1 g2 g3 g4 g5 g6 g7 : ClassId) (A : Nat → Prop) (aM m1 m2 m3 m4 m5 m6 m7 : Nat) (d : Nat → Int32) (n : Nat) (kd ht tk so lt : Nat → Int32) (sto : Int64) (ni ac bl : Int32) (t : zT) (x : Int32) : zM l y_M_isLamp b_M_isLamp 2 (some (FieldType.boolean)) 1 22 [.ref aM, .int x] (dC, dI) (t7 g1 g2 g3 g4 g5 g6 g7) A (wm g1 g2 g3 g4 g5 g6 g7 aM m1 m2 m3 m4 m5 m6 m7 d n kd ht tk so lt sto ni ac bl t) (wm g1 g2 g3 g4 g5 g6 g7 aM m1 m2 m3 m4 m5 m6 m7 d n kd ht tk so lt sto ni ac bl t) (some (.int (zb (decide (0 ≤ x ∧ x ≤ nI n - 1))))) := by
  refine zM_of "CoastLampsModel" rfl (by decide) (Nat.le_of_ble_eq_true rfl) ?_
  intro p e s m below meth c ls E hP hK hD hS hl
  obtain ⟨hx, hb, hml, ho, hts, hr, hlk⟩ := id E
  have hl : lv_has ls 2 [(0, .ref aM), (1, .int x)] := hl
  refine lv_iload_n hx hb d_M_isLamp_0 rfl (lv_at hl 1 rfl) ?_
  refine lv_iconst (v := 0) hx hb d_M_isLamp_1 (by decide) ?_
  refine lv_aload_n hx hb d_M_isLamp_2 rfl (lv_at hl 0 rfl) ?_
  refine zget (ci := 11) (fs := [.ref m1, .int (nI n), .ref m2, .ref m3, .ref m4, .ref m5, .ref m6, .long sto, .int ni, .int ac, .int bl, .ref m7, .int (nI t.2.1)]) E hK hP 0 rfl zC_M 1 (by decide) kw_591 (Or.inl rfl) rfl d_M_isLamp_3 ?_
  refine lv_iconst (v := 1) hx hb d_M_isLamp_6 (by decide) ?_
  refine lv_isub hx hb d_M_isLamp_7 ?_
  refine zcS (As := [.int x, .int 0, .int ((nI n) - 1)]) (rest := []) E cy_M_in kw_636 kw_635 rfl (c_M_in l dC dI (t7 g1 g2 g3 g4 g5 g6 g7) A (wm g1 g2 g3 g4 g5 g6 g7 aM m1 m2 m3 m4 m5 m6 m7 d n kd ht tk so lt sto ni ac bl t) x 0 ((nI n) - 1)) hK hP hD hS rfl hl.1 rfl (Nat.le_of_ble_eq_true rfl) ⟨Nat.le_of_ble_eq_true rfl, Nat.le_of_ble_eq_true rfl⟩ d_M_isLamp_8 ⟨Nat.le_refl _, Nat.le_refl _⟩ (fun H locs hP hD hS => ?_)
  exact zrz E hK hP hD hS (zb_nar _) d_M_isLamp_11
set_option maxHeartbeats 1000000 in
set_option maxRecDepth 100000 in
theorem any_M {p : Program} {l : Launch} {e : Env} {s : State} {m : MethodId} {below : List Frame} {meth : Method} {c : Code} (dC : Nat → ClassId) (dI : Nat → Nat → Nat) (g1 g2 g3 g4 g5 g6 g7 : ClassId) (A : Nat → Prop) (aM m1 m2 m3 m4 m5 m6 m7 : Nat) (d : Nat → Int32) (n : Nat) (kd ht tk so lt : Nat → Int32) (sto : Int64) (ni ac bl : Int32) (t : zT) (hn : n ≤ 60) (E : zE p s m [Value.ref aM].toArray meth c "CoastLampsModel" b_M_isAnyLit 3 (some FieldType.boolean)) (hK : va_K (dC, dI) classes (t7 g1 g2 g3 g4 g5 g6 g7) s) (H : Heap) (locs : List Loc) (hP : va_P (dC, dI) classes (wm g1 g2 g3 g4 g5 g6 g7 aM m1 m2 m3 m4 m5 m6 m7 d n kd ht tk so lt sto ni ac bl t) H) (hD : va_D A (wm g1 g2 g3 g4 g5 g6 g7 aM m1 m2 m3 m4 m5 m6 m7 d n kd ht tk so lt sto ni ac bl t)) (hS : va_S A s.heap H locs) :
    ∀ (q i : Nat) (ls : Array Slot), i + q = n → lv_has ls 3 [(2, .int (nI i)), (1, .int (zb (anyL lt i))), (0, .ref aM)] → W p l e (zR 0 0) s m [Value.ref aM].toArray below meth c H locs 0 0 (MQ below (zQ (dC, dI) (t7 g1 g2 g3 g4 g5 g6 g7) A (wm g1 g2 g3 g4 g5 g6 g7 aM m1 m2 m3 m4 m5 m6 m7 d n kd ht tk so lt sto ni ac bl t) (some (.int (zb (anyL lt n))))) [Value.ref aM].toArray s 0 0 A) (F0 m 4 ls []) := by
  obtain ⟨hx, hb, hml, ho, hts, hr, hlk⟩ := id E
  intro q
  induction q with
  | zero =>
    intro i ls hiq hl
    obtain rfl : i = n := by omega
    refine lv_iload_n hx hb d_M_isAnyLit_4 rfl (lv_at hl 0 rfl) ?_
    refine lv_aload_n hx hb d_M_isAnyLit_5 rfl (lv_at hl 2 rfl) ?_
    refine zget (ci := 11) (fs := [.ref m1, .int (nI i), .ref m2, .ref m3, .ref m4, .ref m5, .ref m6, .long sto, .int ni, .int ac, .int bl, .ref m7, .int (nI t.2.1)]) E hK hP 0 rfl zC_M 1 (by decide) kw_591 (Or.inl rfl) rfl d_M_isAnyLit_6 ?_
    refine lv_icmp_ge (tgt := 37) hx hb d_M_isAnyLit_9 (by decide) (fun _ => ?_) (fun h9 => absurd (Int32.le_refl _) h9)
    refine lv_iload_n hx hb d_M_isAnyLit_37 rfl (lv_at hl 1 rfl) ?_
    exact zrz E hK hP hD hS (zb_nar _) d_M_isAnyLit_38
  | succ q ih =>
    intro i ls hiq hl
    have hi : i < 60 := by omega
    refine lv_iload_n hx hb d_M_isAnyLit_4 rfl (lv_at hl 0 rfl) ?_
    refine lv_aload_n hx hb d_M_isAnyLit_5 rfl (lv_at hl 2 rfl) ?_
    refine zget (ci := 11) (fs := [.ref m1, .int (nI n), .ref m2, .ref m3, .ref m4, .ref m5, .ref m6, .long sto, .int ni, .int ac, .int bl, .ref m7, .int (nI t.2.1)]) E hK hP 0 rfl zC_M 1 (by decide) kw_591 (Or.inl rfl) rfl d_M_isAnyLit_6 ?_
    refine lv_icmp_ge (tgt := 37) hx hb d_M_isAnyLit_9 (by decide) (fun h9 => absurd h9 (nI_ge (by omega) (by omega))) (fun _ => ?_)
    refine lv_iload_n hx hb d_M_isAnyLit_12 rfl (lv_at hl 1 rfl) ?_
    cases hA : anyL lt i
    · rw [hA] at hl
      have hl : lv_has ls 3 [(2, .int (nI i)), (1, .int 0), (0, .ref aM)] := hl
      show W p l e (zR 0 0) s m _ below meth c H locs 0 0 _ (F0 m 13 ls [.int 0])
      by_cases h2 : lt i = 0
      · refine lv_if_ne (tgt := 25) hx hb d_M_isAnyLit_13 (by decide) (fun h9 => absurd (rfl) h9) (fun _ => ?_)
        refine lv_aload_n hx hb d_M_isAnyLit_16 rfl (lv_at hl 2 rfl) ?_
        refine zget (ci := 11) (fs := [.ref m1, .int (nI n), .ref m2, .ref m3, .ref m4, .ref m5, .ref m6, .long sto, .int ni, .int ac, .int bl, .ref m7, .int (nI t.2.1)]) E hK hP 0 rfl zC_M 6 (by decide) kw_596 (Or.inl rfl) rfl d_M_isAnyLit_17 ?_
        refine lv_iload_n hx hb d_M_isAnyLit_20 rfl (lv_at hl 0 rfl) ?_
        refine va_zald hx hb hK hP 6 5 rfl rfl (vp_in_nI hi (by decide)) d_M_isAnyLit_21 ?_
        rw [nI_clamp (i31 hi)]
        refine lv_if_eq (tgt := 29) hx hb d_M_isAnyLit_22 (by decide) (fun _ => ?_) (fun h9 => absurd (h2) h9)
        refine lv_iconst (v := 0) hx hb d_M_isAnyLit_29 (by decide) ?_
        refine lv_istore_n (lv' := [(1, .int 0), (2, .int (nI i)), (0, .ref aM)]) hx hb d_M_isAnyLit_30 rfl hl (by decide) rfl (fun ls hl => ?_)
        refine lv_iinc (v := nI (i + 1)) (lv' := [(2, .int (nI (i + 1))), (1, .int 0), (0, .ref aM)]) hx hb d_M_isAnyLit_31 hl (k := 1) rfl (nI_1 i) (by decide) rfl (fun ls hl => ?_)
        refine lv_goto (tgt := 4) hx hb d_M_isAnyLit_34 (by decide) ?_
        refine ih (i + 1) ls (by omega) ?_
        rw [show anyL lt (i + 1) = false from by simp [anyL, hA, h2]]
        exact lv_sub hl [0, 1, 2] rfl
      · refine lv_if_ne (tgt := 25) hx hb d_M_isAnyLit_13 (by decide) (fun h9 => absurd (rfl) h9) (fun _ => ?_)
        refine lv_aload_n hx hb d_M_isAnyLit_16 rfl (lv_at hl 2 rfl) ?_
        refine zget (ci := 11) (fs := [.ref m1, .int (nI n), .ref m2, .ref m3, .ref m4, .ref m5, .ref m6, .long sto, .int ni, .int ac, .int bl, .ref m7, .int (nI t.2.1)]) E hK hP 0 rfl zC_M 6 (by decide) kw_596 (Or.inl rfl) rfl d_M_isAnyLit_17 ?_
        refine lv_iload_n hx hb d_M_isAnyLit_20 rfl (lv_at hl 0 rfl) ?_
        refine va_zald hx hb hK hP 6 5 rfl rfl (vp_in_nI hi (by decide)) d_M_isAnyLit_21 ?_
        rw [nI_clamp (i31 hi)]
        refine lv_if_eq (tgt := 29) hx hb d_M_isAnyLit_22 (by decide) (fun h9 => absurd h9 (h2)) (fun _ => ?_)
        refine lv_iconst (v := 1) hx hb d_M_isAnyLit_25 (by decide) ?_
        refine lv_goto (tgt := 30) hx hb d_M_isAnyLit_26 (by decide) ?_
        refine lv_istore_n (lv' := [(1, .int 1), (2, .int (nI i)), (0, .ref aM)]) hx hb d_M_isAnyLit_30 rfl hl (by decide) rfl (fun ls hl => ?_)
        refine lv_iinc (v := nI (i + 1)) (lv' := [(2, .int (nI (i + 1))), (1, .int 1), (0, .ref aM)]) hx hb d_M_isAnyLit_31 hl (k := 1) rfl (nI_1 i) (by decide) rfl (fun ls hl => ?_)
        refine lv_goto (tgt := 4) hx hb d_M_isAnyLit_34 (by decide) ?_
        refine ih (i + 1) ls (by omega) ?_
        rw [show anyL lt (i + 1) = true from by simp [anyL, hA, h2]]
        exact lv_sub hl [0, 1, 2] rfl
    · rw [hA] at hl
      have hl : lv_has ls 3 [(2, .int (nI i)), (1, .int 1), (0, .ref aM)] := hl
      show W p l e (zR 0 0) s m _ below meth c H locs 0 0 _ (F0 m 13 ls [.int 1])
      refine lv_if_ne (tgt := 25) hx hb d_M_isAnyLit_13 (by decide) (fun _ => ?_) (fun h9 => absurd h9 (by decide))
      refine lv_iconst (v := 1) hx hb d_M_isAnyLit_25 (by decide) ?_
      refine lv_goto (tgt := 30) hx hb d_M_isAnyLit_26 (by decide) ?_
      refine lv_istore_n (lv' := [(1, .int 1), (2, .int (nI i)), (0, .ref aM)]) hx hb d_M_isAnyLit_30 rfl hl (by decide) rfl (fun ls hl => ?_)
      refine lv_iinc (v := nI (i + 1)) (lv' := [(2, .int (nI (i + 1))), (1, .int 1), (0, .ref aM)]) hx hb d_M_isAnyLit_31 hl (k := 1) rfl (nI_1 i) (by decide) rfl (fun ls hl => ?_)
      refine lv_goto (tgt := 4) hx hb d_M_isAnyLit_34 (by decide) ?_
      refine ih (i + 1) ls (by omega) ?_
      rw [show anyL lt (i + 1) = true from by simp [anyL, hA]]
      exact lv_sub hl [0, 1, 2] rfl
set_option maxHeartbeats 1000000 in
set_option maxRecDepth 100000 in
theorem c_M_isAnyLit (l : Launch) (dC : Nat → ClassId) (dI : Nat → Nat → Nat) (g1 g2 g3 g4 g5 g6 g7 : ClassId) (A : Nat → Prop) (aM m1 m2 m3 m4 m5 m6 m7 : Nat) (d : Nat → Int32) (n : Nat) (kd ht tk so lt : Nat → Int32) (sto : Int64) (ni ac bl : Int32) (t : zT) (hn : n ≤ 60) : zM l y_M_isAnyLit b_M_isAnyLit 3 (some (FieldType.boolean)) 0 0 [.ref aM] (dC, dI) (t7 g1 g2 g3 g4 g5 g6 g7) A (wm g1 g2 g3 g4 g5 g6 g7 aM m1 m2 m3 m4 m5 m6 m7 d n kd ht tk so lt sto ni ac bl t) (wm g1 g2 g3 g4 g5 g6 g7 aM m1 m2 m3 m4 m5 m6 m7 d n kd ht tk so lt sto ni ac bl t) (some (.int (zb (anyL lt n)))) := by
  refine zM_of "CoastLampsModel" rfl (by decide) (Nat.le_of_ble_eq_true rfl) ?_
  intro p e s m below meth c ls E hP hK hD hS hl
  obtain ⟨hx, hb, hml, ho, hts, hr, hlk⟩ := id E
  have hl : lv_has ls 3 [(0, .ref aM)] := hl
  refine lv_iconst (v := 0) hx hb d_M_isAnyLit_0 (by decide) ?_
  refine lv_istore_n (lv' := [(1, .int 0), (0, .ref aM)]) hx hb d_M_isAnyLit_1 rfl hl (by decide) rfl (fun ls hl => ?_)
  refine lv_iconst (v := 0) hx hb d_M_isAnyLit_2 (by decide) ?_
  refine lv_istore_n (lv' := [(2, .int 0), (1, .int 0), (0, .ref aM)]) hx hb d_M_isAnyLit_3 rfl hl (by decide) rfl (fun ls hl => ?_)
  exact any_M dC dI g1 g2 g3 g4 g5 g6 g7 A aM m1 m2 m3 m4 m5 m6 m7 d n kd ht tk so lt sto ni ac bl t hn E hK _ _ hP hD hS n 0 ls (by omega) (lv_sub hl [0, 1, 2] rfl)
