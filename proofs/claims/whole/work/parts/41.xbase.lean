set_option maxHeartbeats 1000000 in
set_option maxRecDepth 100000 in
theorem c_X_within (l : Launch) (dC : Nat → ClassId) (dI : Nat → Nat → Nat) (tys : List (ClassId × FieldType)) (A : Nat → Prop) (w : va_W) (x y z : Int32) : zM l y_X_within b_X_within 3 (some FieldType.boolean) 0 0 [.int x, .int y, .int z] (dC, dI) tys A w w (some (.int (zb (decide (y ≤ x ∧ x ≤ z))))) := by
  by_cases h1 : y ≤ x
  · by_cases h2 : x ≤ z
    · rw [show zb (decide (y ≤ x ∧ x ≤ z)) = 1 from by rw [decide_eq_true (⟨h1, h2⟩)]; rfl]
      refine zM_of "CoastLamps" rfl (by decide) (Nat.le_of_ble_eq_true rfl) ?_
      intro p e s m below meth c ls E hP hK hD hS hl
      obtain ⟨hx, hb, hml, ho, hts, hr, hlk⟩ := id E
      have hl : lv_has ls 3 [(0, .int x), (1, .int y), (2, .int z)] := hl
      refine lv_iload_n hx hb d_X_within_0 rfl (lv_at hl 0 rfl) ?_
      refine lv_iload_n hx hb d_X_within_1 rfl (lv_at hl 1 rfl) ?_
      refine lv_icmp_lt (tgt := 14) hx hb d_X_within_2 (by decide) (fun h9 => absurd h9 (Int32.not_lt.mpr h1)) (fun _ => ?_)
      refine lv_iload_n hx hb d_X_within_5 rfl (lv_at hl 0 rfl) ?_
      refine lv_iload_n hx hb d_X_within_6 rfl (lv_at hl 2 rfl) ?_
      refine lv_icmp_gt (tgt := 14) hx hb d_X_within_7 (by decide) (fun h9 => absurd h9 (Int32.not_lt.mpr h2)) (fun _ => ?_)
      refine lv_iconst (v := 1) hx hb d_X_within_10 (by decide) ?_
      refine lv_goto (tgt := 15) hx hb d_X_within_11 (by decide) ?_
      exact zrz E hK hP hD hS rfl d_X_within_15
    · rw [show zb (decide (y ≤ x ∧ x ≤ z)) = 0 from by rw [decide_eq_false (fun h => h2 h.2)]; rfl]
      refine zM_of "CoastLamps" rfl (by decide) (Nat.le_of_ble_eq_true rfl) ?_
      intro p e s m below meth c ls E hP hK hD hS hl
      obtain ⟨hx, hb, hml, ho, hts, hr, hlk⟩ := id E
      have hl : lv_has ls 3 [(0, .int x), (1, .int y), (2, .int z)] := hl
      refine lv_iload_n hx hb d_X_within_0 rfl (lv_at hl 0 rfl) ?_
      refine lv_iload_n hx hb d_X_within_1 rfl (lv_at hl 1 rfl) ?_
      refine lv_icmp_lt (tgt := 14) hx hb d_X_within_2 (by decide) (fun h9 => absurd h9 (Int32.not_lt.mpr h1)) (fun _ => ?_)
      refine lv_iload_n hx hb d_X_within_5 rfl (lv_at hl 0 rfl) ?_
      refine lv_iload_n hx hb d_X_within_6 rfl (lv_at hl 2 rfl) ?_
      refine lv_icmp_gt (tgt := 14) hx hb d_X_within_7 (by decide) (fun _ => ?_) (fun h9 => absurd (Int32.not_le.mp h2) h9)
      refine lv_iconst (v := 0) hx hb d_X_within_14 (by decide) ?_
      exact zrz E hK hP hD hS rfl d_X_within_15
  · rw [show zb (decide (y ≤ x ∧ x ≤ z)) = 0 from by rw [decide_eq_false (fun h => h1 h.1)]; rfl]
    refine zM_of "CoastLamps" rfl (by decide) (Nat.le_of_ble_eq_true rfl) ?_
    intro p e s m below meth c ls E hP hK hD hS hl
    obtain ⟨hx, hb, hml, ho, hts, hr, hlk⟩ := id E
    have hl : lv_has ls 3 [(0, .int x), (1, .int y), (2, .int z)] := hl
    refine lv_iload_n hx hb d_X_within_0 rfl (lv_at hl 0 rfl) ?_
    refine lv_iload_n hx hb d_X_within_1 rfl (lv_at hl 1 rfl) ?_
    refine lv_icmp_lt (tgt := 14) hx hb d_X_within_2 (by decide) (fun _ => ?_) (fun h9 => absurd (Int32.not_le.mp h1) h9)
    refine lv_iconst (v := 0) hx hb d_X_within_14 (by decide) ?_
    exact zrz E hK hP hD hS rfl d_X_within_15
set_option maxHeartbeats 1000000 in
set_option maxRecDepth 100000 in
theorem c_X_lampAt_t (l : Launch) (dC : Nat → ClassId) (dI : Nat → Nat → Nat) (c1 c2 c3 : ClassId) (A : Nat → Prop) (aX aC aD aE aA : Nat) (ad : Nat → Nat) (d : Nat → Int32) (n : Nat) (kk : Nat → Nat) (ht tk so lt : Nat → Int32) (sto : Int64) (ni ac bl : Int32) (t : zT) (hn : n ≤ 60) (i : Nat) (hi0 : i < n) : zM l y_X_lampAt b_X_lampAt 2 (some (FieldType.object "CoastLamps$Lamp")) 1 22 [.ref aX, .int (nI i)] (dC, dI) (t3 c1 c2 c3) A (wx c1 c2 c3 aX aC aD aE aA ad d n kk ht tk so lt sto ni ac bl t) (wx c1 c2 c3 aX aC aD aE aA ad d n kk ht tk so lt sto ni ac bl t) (some (.ref (ad i))) := by
  have hi : i < 60 := Nat.lt_of_lt_of_le hi0 hn
  refine zM_of "CoastLamps" rfl (by decide) (Nat.le_of_ble_eq_true rfl) ?_
  intro p e s m below meth c ls E hP hK hD hS hl
  obtain ⟨hx, hb, hml, ho, hts, hr, hlk⟩ := id E
  have hl : lv_has ls 2 [(0, .ref aX), (1, .int (nI i))] := hl
  refine lv_iload_n hx hb d_X_lampAt_0 rfl (lv_at hl 1 rfl) ?_
  refine lv_iconst (v := 0) hx hb d_X_lampAt_1 (by decide) ?_
  refine lv_aload_n hx hb d_X_lampAt_2 rfl (lv_at hl 0 rfl) ?_
  refine zget (ci := 10) (fs := [.ref aC, .ref aA, .int (nI n), .int ni, .int ac, .int bl, .long sto]) E hK hP 3 rfl zC_X 2 (by decide) kw_45 (Or.inl rfl) rfl d_X_lampAt_3 ?_
  refine lv_iconst (v := 1) hx hb d_X_lampAt_6 (by decide) ?_
  refine lv_isub hx hb d_X_lampAt_7 ?_
  refine zcS (As := [.int (nI i), .int 0, .int ((nI n) - 1)]) (rest := []) E cy_X_within kw_70 kw_69 rfl (c_X_within l dC dI (t3 c1 c2 c3) A (wx c1 c2 c3 aX aC aD aE aA ad d n kk ht tk so lt sto ni ac bl t) (nI i) 0 ((nI n) - 1)) hK hP hD hS rfl hl.1 rfl (Nat.le_of_ble_eq_true rfl) ⟨Nat.le_of_ble_eq_true rfl, Nat.le_of_ble_eq_true rfl⟩ d_X_lampAt_8 ⟨Nat.le_refl _, Nat.le_refl _⟩ (fun H locs hP hD hS => ?_)
  rw [show zb (decide (0 ≤ nI i ∧ nI i ≤ (nI n) - 1)) = 1 from by rw [decide_eq_true (isL_to (Nat.le_trans hn (by decide)) hi0)]; rfl]
  refine lv_if_eq (tgt := 32) hx hb d_X_lampAt_11 (by decide) (fun h9 => absurd h9 (by decide)) (fun _ => ?_)
  refine lv_iload_n hx hb d_X_lampAt_14 rfl (lv_at hl 1 rfl) ?_
  refine lv_aload_n hx hb d_X_lampAt_15 rfl (lv_at hl 0 rfl) ?_
  refine zget (ci := 10) (fs := [.ref aC, .ref aA, .int (nI n), .int ni, .int ac, .int bl, .long sto]) E hK hP 3 rfl zC_X 1 (by decide) kw_44 (Or.inl rfl) rfl d_X_lampAt_16 ?_
  refine va_alen (x := (60, .inr (.inr (.inr (.inr (fun i => if i < n then some (ad i) else none)))))) hx hb hK hP 4 2 rfl rfl (v := nI 60) rfl d_X_lampAt_19 ?_
  refine lv_icmp_ge (tgt := 32) hx hb d_X_lampAt_20 (by decide) (fun h9 => absurd h9 (nI_ge hi (by decide))) (fun _ => ?_)
  refine lv_aload_n hx hb d_X_lampAt_23 rfl (lv_at hl 0 rfl) ?_
  refine zget (ci := 10) (fs := [.ref aC, .ref aA, .int (nI n), .int ni, .int ac, .int bl, .long sto]) E hK hP 3 rfl zC_X 1 (by decide) kw_44 (Or.inl rfl) rfl d_X_lampAt_24 ?_
  refine lv_iload_n hx hb d_X_lampAt_27 rfl (lv_at hl 1 rfl) ?_
  refine va_aldq hx hb hK hP 4 2 rfl rfl (vp_in_nI hi (by decide)) d_X_lampAt_28 ?_
  rw [nI_clamp (i31 hi)]
  rw [show va_rf ((fun i => if i < n then some (ad i) else none) i) = Value.ref (ad i) from by simp [hi0, va_rf]]
  refine lv_goto (tgt := 33) hx hb d_X_lampAt_29 (by decide) ?_
  exact zra E hK hP hD hS (Or.inr ⟨_, rfl⟩) d_X_lampAt_33
set_option maxHeartbeats 1000000 in
set_option maxRecDepth 100000 in
theorem c_X_lampAt_f (l : Launch) (dC : Nat → ClassId) (dI : Nat → Nat → Nat) (c1 c2 c3 : ClassId) (A : Nat → Prop) (aX aC aD aE aA : Nat) (ad : Nat → Nat) (d : Nat → Int32) (n : Nat) (kk : Nat → Nat) (ht tk so lt : Nat → Int32) (sto : Int64) (ni ac bl : Int32) (t : zT) (x : Int32) (h1 : ¬ (0 ≤ x ∧ x ≤ nI n - 1)) : zM l y_X_lampAt b_X_lampAt 2 (some (FieldType.object "CoastLamps$Lamp")) 1 22 [.ref aX, .int x] (dC, dI) (t3 c1 c2 c3) A (wx c1 c2 c3 aX aC aD aE aA ad d n kk ht tk so lt sto ni ac bl t) (wx c1 c2 c3 aX aC aD aE aA ad d n kk ht tk so lt sto ni ac bl t) (some .null) := by
  refine zM_of "CoastLamps" rfl (by decide) (Nat.le_of_ble_eq_true rfl) ?_
  intro p e s m below meth c ls E hP hK hD hS hl
  obtain ⟨hx, hb, hml, ho, hts, hr, hlk⟩ := id E
  have hl : lv_has ls 2 [(0, .ref aX), (1, .int x)] := hl
  refine lv_iload_n hx hb d_X_lampAt_0 rfl (lv_at hl 1 rfl) ?_
  refine lv_iconst (v := 0) hx hb d_X_lampAt_1 (by decide) ?_
  refine lv_aload_n hx hb d_X_lampAt_2 rfl (lv_at hl 0 rfl) ?_
  refine zget (ci := 10) (fs := [.ref aC, .ref aA, .int (nI n), .int ni, .int ac, .int bl, .long sto]) E hK hP 3 rfl zC_X 2 (by decide) kw_45 (Or.inl rfl) rfl d_X_lampAt_3 ?_
  refine lv_iconst (v := 1) hx hb d_X_lampAt_6 (by decide) ?_
  refine lv_isub hx hb d_X_lampAt_7 ?_
  refine zcS (As := [.int x, .int 0, .int ((nI n) - 1)]) (rest := []) E cy_X_within kw_70 kw_69 rfl (c_X_within l dC dI (t3 c1 c2 c3) A (wx c1 c2 c3 aX aC aD aE aA ad d n kk ht tk so lt sto ni ac bl t) x 0 ((nI n) - 1)) hK hP hD hS rfl hl.1 rfl (Nat.le_of_ble_eq_true rfl) ⟨Nat.le_of_ble_eq_true rfl, Nat.le_of_ble_eq_true rfl⟩ d_X_lampAt_8 ⟨Nat.le_refl _, Nat.le_refl _⟩ (fun H locs hP hD hS => ?_)
  rw [show zb (decide (0 ≤ x ∧ x ≤ (nI n) - 1)) = 0 from by rw [decide_eq_false (h1)]; rfl]
  refine lv_if_eq (tgt := 32) hx hb d_X_lampAt_11 (by decide) (fun _ => ?_) (fun h9 => absurd (rfl) h9)
  refine lv_null hx hb d_X_lampAt_32 ?_
  exact zra E hK hP hD hS (Or.inl rfl) d_X_lampAt_33
set_option maxHeartbeats 1000000 in
set_option maxRecDepth 100000 in
theorem c_X_beginAct (l : Launch) (dC : Nat → ClassId) (dI : Nat → Nat → Nat) (c1 c2 c3 : ClassId) (A : Nat → Prop) (aX aC aD aE aA : Nat) (ad : Nat → Nat) (d : Nat → Int32) (n : Nat) (kk : Nat → Nat) (ht tk so lt : Nat → Int32) (sto : Int64) (ni ac bl : Int32) (t : zT) : zM l y_X_beginAct b_X_beginAct 1 none 1 20 [.ref aX] (dC, dI) (t3 c1 c2 c3) A (wx c1 c2 c3 aX aC aD aE aA ad d n kk ht tk so lt sto ni ac bl t) (wx c1 c2 c3 aX aC aD aE aA ad d n kk ht tk so lt sto ni (ac + 1) bl (t0 t)) none := by
  refine zM_of "CoastLamps" rfl (by decide) (Nat.le_of_ble_eq_true rfl) ?_
  intro p e s m below meth c ls E hP hK hD hS hl
  obtain ⟨hx, hb, hml, ho, hts, hr, hlk⟩ := id E
  have hl : lv_has ls 1 [(0, .ref aX)] := hl
  refine lv_aload_n hx hb d_X_beginAct_0 rfl (lv_at hl 0 rfl) ?_
  refine lv_dup hx hb d_X_beginAct_1 rfl ?_
  refine zget (ci := 10) (fs := [.ref aC, .ref aA, .int (nI n), .int ni, .int ac, .int bl, .long sto]) E hK hP 3 rfl zC_X 4 (by decide) kw_47 (Or.inl rfl) rfl d_X_beginAct_2 ?_
  refine lv_iconst (v := 1) hx hb d_X_beginAct_5 (by decide) ?_
  refine lv_iadd hx hb d_X_beginAct_6 ?_
  refine zput (ci := 10) (fs := [.ref aC, .ref aA, .int (nI n), .int ni, .int ac, .int bl, .long sto]) (ty := .int) (v := .int (ac + 1)) (ws2 := wx c1 c2 c3 aX aC aD aE aA ad d n kk ht tk so lt sto ni (ac + 1) bl t) E hK hP hD hS 3 rfl zC_X t_X o_X n_X 4 (by decide) kw_47 (Or.inl rfl) rfl rfl rfl rfl (Nat.le_of_ble_eq_true rfl) d_X_beginAct_7 (rfl) (fun H locs hP hD hS => ?_)
  refine lv_aload_n hx hb d_X_beginAct_10 rfl (lv_at hl 0 rfl) ?_
  refine zget (ci := 10) (fs := [.ref aC, .ref aA, .int (nI n), .int ni, .int (ac + 1), .int bl, .long sto]) E hK hP 3 rfl zC_X 0 (by decide) kw_43 (Or.inl rfl) rfl d_X_beginAct_11 ?_
  refine zcV (As := []) (rest := []) (ci := 9) E cy_Coast_wipe kw_265 kw_266 kw_264 (c_Coast_wipe l dC dI c1 c2 c3 A aC aD aE d (wxR c3 aX aC aA ad n kk ht tk so lt sto ni (ac + 1) bl) t) hK hP hD hS 0 rfl zC_Coast.1 rfl rfl hl.1 rfl (Nat.le_of_ble_eq_true rfl) ⟨Nat.le_of_ble_eq_true rfl, Nat.le_of_ble_eq_true rfl⟩ d_X_beginAct_14 ⟨Nat.le_refl _, Nat.le_refl _⟩ (fun H locs hP hD hS => ?_)
  have hP : va_P (dC, dI) classes (wx c1 c2 c3 aX aC aD aE aA ad d n kk ht tk so lt sto ni (ac + 1) bl (t0 t)) H := hP
  have hD : va_D A (wx c1 c2 c3 aX aC aD aE aA ad d n kk ht tk so lt sto ni (ac + 1) bl (t0 t)) := hD
  exact zrv E hK hP hD hS d_X_beginAct_17
theorem any_mono {lt : Nat → Int32} {i : Nat} (h : ¬ lt i = 0) : ∀ {n : Nat}, i < n → anyL lt n = true := by
  intro n
  induction n with
  | zero => intro h9; omega
  | succ n ih =>
    intro h9
    by_cases h8 : i = n
    · subst h8; simp [anyL, h]
    · simp [anyL, ih (by omega)]
set_option maxHeartbeats 1000000 in
set_option maxRecDepth 100000 in
theorem any_X {p : Program} {l : Launch} {e : Env} {s : State} {m : MethodId} {below : List Frame} {meth : Method} {c : Code} (dC : Nat → ClassId) (dI : Nat → Nat → Nat) (c1 c2 c3 : ClassId) (A : Nat → Prop) (aX aC aD aE aA : Nat) (ad : Nat → Nat) (d : Nat → Int32) (n : Nat) (kk : Nat → Nat) (ht tk so lt : Nat → Int32) (sto : Int64) (ni ac bl : Int32) (t : zT) (hn : n ≤ 60) (hkk : ∀ i, i < n → kk i < 9) (E : zE p s m [Value.ref aX].toArray meth c "CoastLamps" b_X_anyLit 3 (some FieldType.boolean)) (hK : va_K (dC, dI) classes (t3 c1 c2 c3) s) :
    ∀ (q i : Nat) (ls : Array Slot) (H : Heap) (locs : List Loc), i + q = n → anyL lt i = false → va_P (dC, dI) classes (wx c1 c2 c3 aX aC aD aE aA ad d n kk ht tk so lt sto ni ac bl t) H → va_D A (wx c1 c2 c3 aX aC aD aE aA ad d n kk ht tk so lt sto ni ac bl t) → va_S A s.heap H locs → lv_has ls 3 [(1, .int (nI i)), (0, .ref aX)] → W p l e (zR 2 43) s m [Value.ref aX].toArray below meth c H locs 0 0 (MQ below (zQ (dC, dI) (t3 c1 c2 c3) A (wx c1 c2 c3 aX aC aD aE aA ad d n kk ht tk so lt sto ni ac bl t) (some (.int (zb (anyL lt n))))) [Value.ref aX].toArray s 0 0 A) (F0 m 2 ls []) := by
  obtain ⟨hx, hb, hml, ho, hts, hr, hlk⟩ := id E
  intro q
  induction q with
  | zero =>
    intro i ls H locs hiq hA hP hD hS hl
    obtain rfl : i = n := by omega
    rw [hA, show zb false = 0 from rfl]
    refine lv_iload_n hx hb d_X_anyLit_2 rfl (lv_at hl 0 rfl) ?_
    refine lv_aload_n hx hb d_X_anyLit_3 rfl (lv_at hl 1 rfl) ?_
    refine zget (ci := 10) (fs := [.ref aC, .ref aA, .int (nI i), .int ni, .int ac, .int bl, .long sto]) E hK hP 3 rfl zC_X 2 (by decide) kw_45 (Or.inl rfl) rfl d_X_anyLit_4 ?_
    refine lv_icmp_ge (tgt := 35) hx hb d_X_anyLit_7 (by decide) (fun _ => ?_) (fun h9 => absurd (Int32.le_refl _) h9)
    refine lv_iconst (v := 0) hx hb d_X_anyLit_35 (by decide) ?_
    exact zrz E hK hP hD hS rfl d_X_anyLit_36
  | succ q ih =>
    intro i ls H locs hiq hA hP hD hS hl
    have hi0 : i < n := by omega
    have hi : i < 60 := by omega
    refine lv_iload_n hx hb d_X_anyLit_2 rfl (lv_at hl 0 rfl) ?_
    refine lv_aload_n hx hb d_X_anyLit_3 rfl (lv_at hl 1 rfl) ?_
    refine zget (ci := 10) (fs := [.ref aC, .ref aA, .int (nI n), .int ni, .int ac, .int bl, .long sto]) E hK hP 3 rfl zC_X 2 (by decide) kw_45 (Or.inl rfl) rfl d_X_anyLit_4 ?_
    refine lv_icmp_ge (tgt := 35) hx hb d_X_anyLit_7 (by decide) (fun h9 => absurd h9 (nI_ge hi0 (by omega))) (fun _ => ?_)
    refine lv_aload_n hx hb d_X_anyLit_10 rfl (lv_at hl 1 rfl) ?_
    refine lv_iload_n hx hb d_X_anyLit_11 rfl (lv_at hl 0 rfl) ?_
    refine zcV (As := [.int (nI i)]) (rest := []) (ci := 10) E cy_X_lampAt kw_257 ks_1 kw_255 (c_X_lampAt_t l dC dI c1 c2 c3 A aX aC aD aE aA ad d n kk ht tk so lt sto ni ac bl t hn i hi0) hK hP hD hS 3 rfl zC_X.1 rfl rfl hl.1 rfl (Nat.le_of_ble_eq_true rfl) ⟨Nat.le_of_ble_eq_true rfl, Nat.le_of_ble_eq_true rfl⟩ d_X_anyLit_12 ⟨Nat.le_refl _, Nat.le_refl _⟩ (fun H locs hP hD hS => ?_)
    refine lv_astore_n (lv' := [(2, .ref (ad i)), (1, .int (nI i)), (0, .ref aX)]) hx hb d_X_anyLit_15 rfl hl (by decide) rfl (fun ls hl => ?_)
    refine lv_aload_n hx hb d_X_anyLit_16 rfl (lv_at hl 0 rfl) ?_
    refine lv_ifnull hx hb d_X_anyLit_17 ?_
    refine lv_aload_n hx hb d_X_anyLit_20 rfl (lv_at hl 0 rfl) ?_
    refine zget (ci := (kk i)) (fs := [.ref aC, .int (nI (kk i + 1)), .int (ht i), .int (tk i), .int (so i), .int (lt i)]) E hK hP (i + 5) (x_at hi0) (zC_K (hkk i hi0)) 5 (by decide) kw_133 (Or.inl rfl) rfl d_X_anyLit_21 ?_
    by_cases h2 : lt i = 0
    · refine lv_if_eq (tgt := 29) hx hb d_X_anyLit_24 (by decide) (fun _ => ?_) (fun h9 => absurd (h2) h9)
      refine lv_iinc (v := nI (i + 1)) (lv' := [(1, .int (nI (i + 1))), (2, .ref (ad i)), (0, .ref aX)]) hx hb d_X_anyLit_29 hl (k := 1) rfl (nI_1 i) (by decide) rfl (fun ls hl => ?_)
      refine lv_goto (tgt := 2) hx hb d_X_anyLit_32 (by decide) ?_
      exact ih (i + 1) ls H locs (by omega) (by simp [anyL, hA, h2]) hP hD hS (lv_sub hl [0, 2] rfl)
    · rw [show anyL lt n = true from any_mono (i := i) h2 hi0, show zb true = 1 from rfl]
      refine lv_if_eq (tgt := 29) hx hb d_X_anyLit_24 (by decide) (fun h9 => absurd h9 (h2)) (fun _ => ?_)
      refine lv_iconst (v := 1) hx hb d_X_anyLit_27 (by decide) ?_
      exact zrz E hK hP hD hS rfl d_X_anyLit_28
set_option maxHeartbeats 1000000 in
set_option maxRecDepth 100000 in
theorem c_X_anyLit (l : Launch) (dC : Nat → ClassId) (dI : Nat → Nat → Nat) (c1 c2 c3 : ClassId) (A : Nat → Prop) (aX aC aD aE aA : Nat) (ad : Nat → Nat) (d : Nat → Int32) (n : Nat) (kk : Nat → Nat) (ht tk so lt : Nat → Int32) (sto : Int64) (ni ac bl : Int32) (t : zT) (hn : n ≤ 60) (hkk : ∀ i, i < n → kk i < 9) : zM l y_X_anyLit b_X_anyLit 3 (some (FieldType.boolean)) 2 43 [.ref aX] (dC, dI) (t3 c1 c2 c3) A (wx c1 c2 c3 aX aC aD aE aA ad d n kk ht tk so lt sto ni ac bl t) (wx c1 c2 c3 aX aC aD aE aA ad d n kk ht tk so lt sto ni ac bl t) (some (.int (zb (anyL lt n)))) := by
  refine zM_of "CoastLamps" rfl (by decide) (Nat.le_of_ble_eq_true rfl) ?_
  intro p e s m below meth c ls E hP hK hD hS hl
  obtain ⟨hx, hb, hml, ho, hts, hr, hlk⟩ := id E
  have hl : lv_has ls 3 [(0, .ref aX)] := hl
  refine lv_iconst (v := 0) hx hb d_X_anyLit_0 (by decide) ?_
  refine lv_istore_n (lv' := [(1, .int 0), (0, .ref aX)]) hx hb d_X_anyLit_1 rfl hl (by decide) rfl (fun ls hl => ?_)
  exact any_X dC dI c1 c2 c3 A aX aC aD aE aA ad d n kk ht tk so lt sto ni ac bl t hn hkk E hK n 0 ls _ _ (by omega) rfl hP hD hS (lv_sub hl [0, 1] rfl)
