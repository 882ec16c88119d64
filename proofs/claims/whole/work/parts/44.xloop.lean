set_option maxHeartbeats 1000000 in
set_option maxRecDepth 100000 in
theorem night_X {p : Program} {l : Launch} {e : Env} {s : State} {m : MethodId} {below : List Frame} {meth : Method} {c : Code} (dC : Nat → ClassId) (dI : Nat → Nat → Nat) (c1 c2 c3 : ClassId) (A : Nat → Prop) (aX aC aD aE aA : Nat) (ad : Nat → Nat) (d : Nat → Int32) (n : Nat) (kk : Nat → Nat) (ht : Nat → Int32) (sto : Int64) (ni ac bl : Int32) (x : Int32) (tk0 so0 lt0 : Nat → Int32) (tt : zT) (hn : n ≤ 60) (hkk : ∀ i, i < n → kk i < 9) (E : zE p s m [Value.ref aX, Value.int x].toArray meth c "CoastLamps" b_X_night 5 (some FieldType.int)) (hK : va_K (dC, dI) classes (t3 c1 c2 c3) s) :
    ∀ (q i : Nat) (o : Int32) (tk so lt : Nat → Int32) (t : zT) (ls : Array Slot) (H : Heap) (locs : List Loc), i + q = n → nightF kk d x i (0, tk0, so0, lt0, t0 tt) = (o, tk, so, lt, t) → va_P (dC, dI) classes (wx c1 c2 c3 aX aC aD aE aA ad d n kk ht tk so lt sto ni ac bl t) H → va_D A (wx c1 c2 c3 aX aC aD aE aA ad d n kk ht tk so lt sto ni ac bl t) → va_S A s.heap H locs → lv_has ls 5 [(3, .int (nI i)), (2, .int o), (0, .ref aX), (1, .int x)] → W p l e (zR 7 160) s m [Value.ref aX, Value.int x].toArray below meth c H locs 0 0 (MQ below (zQ (dC, dI) (t3 c1 c2 c3) A (wx c1 c2 c3 aX aC aD aE aA ad d n kk ht (nightF kk d x n (0, tk0, so0, lt0, t0 tt)).2.1 (nightF kk d x n (0, tk0, so0, lt0, t0 tt)).2.2.1 (nightF kk d x n (0, tk0, so0, lt0, t0 tt)).2.2.2.1 sto ni ac bl (nightF kk d x n (0, tk0, so0, lt0, t0 tt)).2.2.2.2) (some (.int (nightF kk d x n (0, tk0, so0, lt0, t0 tt)).1))) [Value.ref aX, Value.int x].toArray s 0 0 A) (F0 m 39 ls []) := by
  obtain ⟨hx, hb, hml, ho, hts, hr, hlk⟩ := id E
  intro q
  induction q with
  | zero =>
    intro i o tk so lt t ls H locs hiq hF hP hD hS hl
    obtain rfl : i = n := by omega
    rw [hF]
    dsimp only
    refine lv_iload_n hx hb d_X_night_39 rfl (lv_at hl 0 rfl) ?_
    refine lv_aload_n hx hb d_X_night_40 rfl (lv_at hl 2 rfl) ?_
    refine zget (ci := 10) (fs := [.ref aC, .ref aA, .int (nI i), .int ni, .int ac, .int bl, .long sto]) E hK hP 3 rfl zC_X 2 (by decide) kw_45 (Or.inl rfl) rfl d_X_night_41 ?_
    refine lv_icmp_ge (tgt := 104) hx hb d_X_night_44 (by decide) (fun _ => ?_) (fun h9 => absurd (Int32.le_refl _) h9)
    refine lv_iload_n hx hb d_X_night_104 rfl (lv_at hl 1 rfl) ?_
    exact zri E hK hP hD hS d_X_night_105
  | succ q ih =>
    intro i o tk so lt t ls H locs hiq hF hP hD hS hl
    have hi0 : i < n := by omega
    have hi : i < 60 := by omega
    have hS1 := nightF_s hF
    refine lv_iload_n hx hb d_X_night_39 rfl (lv_at hl 0 rfl) ?_
    refine lv_aload_n hx hb d_X_night_40 rfl (lv_at hl 2 rfl) ?_
    refine zget (ci := 10) (fs := [.ref aC, .ref aA, .int (nI n), .int ni, .int ac, .int bl, .long sto]) E hK hP 3 rfl zC_X 2 (by decide) kw_45 (Or.inl rfl) rfl d_X_night_41 ?_
    refine lv_icmp_ge (tgt := 104) hx hb d_X_night_44 (by decide) (fun h9 => absurd h9 (nI_ge hi0 (by omega))) (fun _ => ?_)
    refine lv_aload_n hx hb d_X_night_47 rfl (lv_at hl 2 rfl) ?_
    refine lv_iload_n hx hb d_X_night_48 rfl (lv_at hl 0 rfl) ?_
    refine zcV (As := [.int (nI i)]) (rest := []) (ci := 10) E cy_X_lampAt kw_257 ks_1 kw_255 (c_X_lampAt_t l dC dI c1 c2 c3 A aX aC aD aE aA ad d n kk ht tk so lt sto ni ac bl t hn i hi0) hK hP hD hS 3 rfl zC_X.1 rfl rfl hl.1 rfl (Nat.le_of_ble_eq_true rfl) ⟨Nat.le_of_ble_eq_true rfl, Nat.le_of_ble_eq_true rfl⟩ d_X_night_49 ⟨Nat.le_refl _, Nat.le_refl _⟩ (fun H locs hP hD hS => ?_)
    refine lv_astore (lv' := [(4, .ref (ad i)), (3, .int (nI i)), (2, .int o), (0, .ref aX), (1, .int x)]) hx hb d_X_night_52 hl (by decide) rfl (fun ls hl => ?_)
    refine lv_aload hx hb d_X_night_54 (lv_at hl 0 rfl) ?_
    refine lv_ifnull hx hb d_X_night_56 ?_
    refine lv_aload hx hb d_X_night_59 (lv_at hl 0 rfl) ?_
    refine zget (ci := (kk i)) (fs := [.ref aC, .int (nI (kk i + 1)), .int (ht i), .int (tk i), .int (so i), .int (lt i)]) E hK hP (i + 5) (x_at hi0) (zC_K (hkk i hi0)) 5 (by decide) kw_133 (Or.inl rfl) rfl d_X_night_61 ?_
    by_cases h2 : lt i = 0
    · refine lv_if_eq (tgt := 98) hx hb d_X_night_64 (by decide) (fun _ => ?_) (fun h9 => absurd (h2) h9)
      refine lv_iinc (v := nI (i + 1)) (lv' := [(3, .int (nI (i + 1))), (4, .ref (ad i)), (2, .int o), (0, .ref aX), (1, .int x)]) hx hb d_X_night_98 hl (k := 1) rfl (nI_1 i) (by decide) rfl (fun ls hl => ?_)
      refine lv_goto (tgt := 39) hx hb d_X_night_101 (by decide) ?_
      exact ih (i + 1) _ _ _ _ _ ls H locs (by omega) (hS1.trans (by rw [if_pos h2])) hP hD hS (lv_sub hl [0, 2, 3, 4] rfl)
    · refine lv_if_eq (tgt := 98) hx hb d_X_night_64 (by decide) (fun h9 => absurd h9 (h2)) (fun _ => ?_)
      refine lv_aload hx hb d_X_night_67 (lv_at hl 0 rfl) ?_
      refine lv_aload hx hb d_X_night_69 (lv_at hl 0 rfl) ?_
      refine lv_iload_n hx hb d_X_night_71 rfl (lv_at hl 4 rfl) ?_
      have hP : va_P (dC, dI) classes (wl c1 c2 aC aD aE (ad i) (kk i) d (nI (kk i + 1)) (ht i) (tk i) (lt i) (wxR c3 aX aC aA ad n kk ht tk so lt sto ni ac bl) (i + 2) (so i, t)) H := by rw [x_fo]; exact hP
      have hD : va_D A (wl c1 c2 aC aD aE (ad i) (kk i) d (nI (kk i + 1)) (ht i) (tk i) (lt i) (wxR c3 aX aC aA ad n kk ht tk so lt sto ni ac bl) (i + 2) (so i, t)) := by rw [x_fo]; exact hD
      refine dv_burn (x := x) (st := [.ref (ad i)]) E (hkk i hi0) (x_len hi0) kw_286 hK hP hD hS hl.1 (Nat.le_of_ble_eq_true rfl) ⟨Nat.le_of_ble_eq_true rfl, Nat.le_of_ble_eq_true rfl⟩ d_X_night_72 ⟨Nat.le_refl _, Nat.le_refl _⟩ (fun H locs hP hD hS => ?_)
      rw [x_un, upd_me tk i, upd_me lt i] at hP hD
      have hP : va_P (dC, dI) classes (wx c1 c2 c3 aX aC aD aE aA ad d n kk ht tk (upd so i (burnK (kk i) d x (so i, t)).2.1) lt sto ni ac bl ((burnK (kk i) d x (so i, t)).2.2)) H := hP
      have hD : va_D A (wx c1 c2 c3 aX aC aD aE aA ad d n kk ht tk (upd so i (burnK (kk i) d x (so i, t)).2.1) lt sto ni ac bl ((burnK (kk i) d x (so i, t)).2.2)) := hD
      refine lv_iconst (v := 0) hx hb d_X_night_75 (by decide) ?_
      refine zmax E hl.1 kw_546 kw_322 kw_14 kw_323 (Nat.le_of_ble_eq_true rfl) (Nat.le_of_ble_eq_true rfl) ⟨Nat.le_refl _, Nat.le_refl _⟩ d_X_night_76 ?_
      have hP : va_P (dC, dI) classes (wl c1 c2 aC aD aE (ad i) (kk i) d (nI (kk i + 1)) (ht i) (tk i) (lt i) (wxR c3 aX aC aA ad n kk ht tk (upd so i (burnK (kk i) d x (so i, t)).2.1) lt sto ni ac bl) (i + 2) ((upd so i (burnK (kk i) d x (so i, t)).2.1) i, (burnK (kk i) d x (so i, t)).2.2)) H := by rw [x_fo]; exact hP
      have hD : va_D A (wl c1 c2 aC aD aE (ad i) (kk i) d (nI (kk i + 1)) (ht i) (tk i) (lt i) (wxR c3 aX aC aA ad n kk ht tk (upd so i (burnK (kk i) d x (so i, t)).2.1) lt sto ni ac bl) (i + 2) ((upd so i (burnK (kk i) d x (so i, t)).2.1) i, (burnK (kk i) d x (so i, t)).2.2)) := by rw [x_fo]; exact hD
      refine dv_drain (x := if (burnK (kk i) d x (so i, t)).1 < 0 then 0 else (burnK (kk i) d x (so i, t)).1) (st := []) E (hkk i hi0) (x_len hi0) kw_547 hK hP hD hS hl.1 (Nat.le_of_ble_eq_true rfl) ⟨Nat.le_of_ble_eq_true rfl, Nat.le_of_ble_eq_true rfl⟩ d_X_night_79 ⟨Nat.le_refl _, Nat.le_refl _⟩ (fun H locs hP hD hS => ?_)
      rw [x_un, upd_me (upd so i (burnK (kk i) d x (so i, t)).2.1) i] at hP hD
      have hP : va_P (dC, dI) classes (wx c1 c2 c3 aX aC aD aE aA ad d n kk ht (upd tk i (if tk i ≤ if (burnK (kk i) d x (so i, t)).1 < 0 then 0 else (burnK (kk i) d x (so i, t)).1 then 0 else tk i - (if (burnK (kk i) d x (so i, t)).1 < 0 then 0 else (burnK (kk i) d x (so i, t)).1))) (upd so i (burnK (kk i) d x (so i, t)).2.1) (upd lt i (if tk i ≤ if (burnK (kk i) d x (so i, t)).1 < 0 then 0 else (burnK (kk i) d x (so i, t)).1 then 0 else lt i)) sto ni ac bl ((burnK (kk i) d x (so i, t)).2.2)) H := hP
      have hD : va_D A (wx c1 c2 c3 aX aC aD aE aA ad d n kk ht (upd tk i (if tk i ≤ if (burnK (kk i) d x (so i, t)).1 < 0 then 0 else (burnK (kk i) d x (so i, t)).1 then 0 else tk i - (if (burnK (kk i) d x (so i, t)).1 < 0 then 0 else (burnK (kk i) d x (so i, t)).1))) (upd so i (burnK (kk i) d x (so i, t)).2.1) (upd lt i (if tk i ≤ if (burnK (kk i) d x (so i, t)).1 < 0 then 0 else (burnK (kk i) d x (so i, t)).1 then 0 else lt i)) sto ni ac bl ((burnK (kk i) d x (so i, t)).2.2)) := hD
      by_cases h4 : tk i ≤ (if (burnK (kk i) d x (so i, t)).1 < 0 then 0 else (burnK (kk i) d x (so i, t)).1)
      · rw [if_pos h4, if_pos h4] at hP hD
        have hP : va_P (dC, dI) classes (wx c1 c2 c3 aX aC aD aE aA ad d n kk ht (upd tk i 0) (upd so i (burnK (kk i) d x (so i, t)).2.1) (upd lt i 0) sto ni ac bl ((burnK (kk i) d x (so i, t)).2.2)) H := hP
        have hD : va_D A (wx c1 c2 c3 aX aC aD aE aA ad d n kk ht (upd tk i 0) (upd so i (burnK (kk i) d x (so i, t)).2.1) (upd lt i 0) sto ni ac bl ((burnK (kk i) d x (so i, t)).2.2)) := hD
        refine lv_iload_n hx hb d_X_night_82 rfl (lv_at hl 2 rfl) ?_
        refine lv_aload hx hb d_X_night_83 (lv_at hl 0 rfl) ?_
        refine zget (ci := (kk i)) (fs := [.ref aC, .int (nI (kk i + 1)), .int (ht i), .int ((upd tk i 0) i), .int ((upd so i (burnK (kk i) d x (so i, t)).2.1) i), .int ((upd lt i 0) i)]) E hK hP (i + 5) (x_at hi0) (zC_K (hkk i hi0)) 5 (by decide) kw_133 (Or.inl rfl) rfl d_X_night_85 ?_
        rw [pk_us]
        refine lv_if_eq (tgt := 95) hx hb d_X_night_88 (by decide) (fun _ => ?_) (fun h9 => absurd (rfl) h9)
        refine lv_iconst (v := 1) hx hb d_X_night_95 (by decide) ?_
        refine lv_iadd hx hb d_X_night_96 ?_
        refine lv_istore_n (lv' := [(2, .int (o + 1)), (4, .ref (ad i)), (3, .int (nI i)), (0, .ref aX), (1, .int x)]) hx hb d_X_night_97 rfl hl (by decide) rfl (fun ls hl => ?_)
        refine lv_iinc (v := nI (i + 1)) (lv' := [(3, .int (nI (i + 1))), (2, .int (o + 1)), (4, .ref (ad i)), (0, .ref aX), (1, .int x)]) hx hb d_X_night_98 hl (k := 2) rfl (nI_1 i) (by decide) rfl (fun ls hl => ?_)
        refine lv_goto (tgt := 39) hx hb d_X_night_101 (by decide) ?_
        exact ih (i + 1) _ _ _ _ _ ls H locs (by omega) (hS1.trans (by rw [if_neg h2, if_pos h4])) hP hD hS (lv_sub hl [0, 1, 3, 4] rfl)
      · rw [if_neg h4, if_neg h4, upd_me lt i] at hP hD
        have hP : va_P (dC, dI) classes (wx c1 c2 c3 aX aC aD aE aA ad d n kk ht (upd tk i (tk i - (if (burnK (kk i) d x (so i, t)).1 < 0 then 0 else (burnK (kk i) d x (so i, t)).1))) (upd so i (burnK (kk i) d x (so i, t)).2.1) lt sto ni ac bl ((burnK (kk i) d x (so i, t)).2.2)) H := hP
        have hD : va_D A (wx c1 c2 c3 aX aC aD aE aA ad d n kk ht (upd tk i (tk i - (if (burnK (kk i) d x (so i, t)).1 < 0 then 0 else (burnK (kk i) d x (so i, t)).1))) (upd so i (burnK (kk i) d x (so i, t)).2.1) lt sto ni ac bl ((burnK (kk i) d x (so i, t)).2.2)) := hD
        refine lv_iload_n hx hb d_X_night_82 rfl (lv_at hl 2 rfl) ?_
        refine lv_aload hx hb d_X_night_83 (lv_at hl 0 rfl) ?_
        refine zget (ci := (kk i)) (fs := [.ref aC, .int (nI (kk i + 1)), .int (ht i), .int ((upd tk i (tk i - (if (burnK (kk i) d x (so i, t)).1 < 0 then 0 else (burnK (kk i) d x (so i, t)).1))) i), .int ((upd so i (burnK (kk i) d x (so i, t)).2.1) i), .int (lt i)]) E hK hP (i + 5) (x_at hi0) (zC_K (hkk i hi0)) 5 (by decide) kw_133 (Or.inl rfl) rfl d_X_night_85 ?_
        refine lv_if_eq (tgt := 95) hx hb d_X_night_88 (by decide) (fun h9 => absurd h9 (h2)) (fun _ => ?_)
        refine lv_iconst (v := 0) hx hb d_X_night_91 (by decide) ?_
        refine lv_goto (tgt := 96) hx hb d_X_night_92 (by decide) ?_
        refine lv_iadd hx hb d_X_night_96 ?_
        rw [Int32.add_zero]
        refine lv_istore_n (lv' := [(2, .int o), (4, .ref (ad i)), (3, .int (nI i)), (0, .ref aX), (1, .int x)]) hx hb d_X_night_97 rfl hl (by decide) rfl (fun ls hl => ?_)
        refine lv_iinc (v := nI (i + 1)) (lv' := [(3, .int (nI (i + 1))), (2, .int o), (4, .ref (ad i)), (0, .ref aX), (1, .int x)]) hx hb d_X_night_98 hl (k := 2) rfl (nI_1 i) (by decide) rfl (fun ls hl => ?_)
        refine lv_goto (tgt := 39) hx hb d_X_night_101 (by decide) ?_
        exact ih (i + 1) _ _ _ _ _ ls H locs (by omega) (hS1.trans (by rw [if_neg h2, if_neg h4])) hP hD hS (lv_sub hl [0, 1, 3, 4] rfl)
set_option maxHeartbeats 1000000 in
set_option maxRecDepth 100000 in
theorem c_X_night (l : Launch) (dC : Nat → ClassId) (dI : Nat → Nat → Nat) (c1 c2 c3 : ClassId) (A : Nat → Prop) (aX aC aD aE aA : Nat) (ad : Nat → Nat) (d : Nat → Int32) (n : Nat) (kk : Nat → Nat) (ht tk so lt : Nat → Int32) (sto : Int64) (ni ac bl : Int32) (t : zT) (hI : zInv (d, n, kk, ht, tk, so, lt, sto, ni, ac, bl, t)) (x : Int32) : zM l y_X_night b_X_night 5 (some (FieldType.int)) 7 160 [.ref aX, .int x] (dC, dI) (t3 c1 c2 c3) A (xW c1 c2 c3 aX aC aD aE aA ad (d, n, kk, ht, tk, so, lt, sto, ni, ac, bl, t)) (xW c1 c2 c3 aX aC aD aE aA ad (nightA (d, n, kk, ht, tk, so, lt, sto, ni, ac, bl, t) x).2) (some (.int (nightA (d, n, kk, ht, tk, so, lt, sto, ni, ac, bl, t) x).1)) := by
  obtain ⟨hn, hkk, hz⟩ : n ≤ 60 ∧ (∀ i, i < n → kk i < 9) ∧ ∀ i, n ≤ i → tk i = 0 ∧ so i = 0 ∧ lt i = 0 := hI
  by_cases h1 : 1 ≤ x ∧ x ≤ 14
  · cases h2 : anyL lt n
    · have e9 : nightA (d, n, kk, ht, tk, so, lt, sto, ni, ac, bl, t) x = (0, (d, n, kk, ht, tk, so, lt, sto, ni + 1, ac, bl, t)) := by show (if _ then _ else _) = _; rw [if_pos h1, if_neg (by rw [h2]; decide)]
      rw [e9]
      refine zM_of "CoastLamps" rfl (by decide) (Nat.le_of_ble_eq_true rfl) ?_
      intro p e s m below meth c ls E hP hK hD hS hl
      obtain ⟨hx, hb, hml, ho, hts, hr, hlk⟩ := id E
      have hl : lv_has ls 5 [(0, .ref aX), (1, .int x)] := hl
      refine lv_iload_n hx hb d_X_night_0 rfl (lv_at hl 1 rfl) ?_
      refine lv_iconst (v := 1) hx hb d_X_night_1 (by decide) ?_
      refine lv_bipush (v := 14) hx hb d_X_night_2 (by decide) ?_
      refine zcS (As := [.int x, .int 1, .int 14]) (rest := []) E cy_X_within kw_70 kw_69 rfl (c_X_within l dC dI (t3 c1 c2 c3) A (wx c1 c2 c3 aX aC aD aE aA ad d n kk ht tk so lt sto ni ac bl t) x 1 14) hK hP hD hS rfl hl.1 rfl (Nat.le_of_ble_eq_true rfl) ⟨Nat.le_of_ble_eq_true rfl, Nat.le_of_ble_eq_true rfl⟩ d_X_night_4 ⟨Nat.le_refl _, Nat.le_refl _⟩ (fun H locs hP hD hS => ?_)
      rw [show zb (decide (1 ≤ x ∧ x ≤ 14)) = 1 from by rw [decide_eq_true (h1)]; rfl]
      refine lv_if_ne (tgt := 12) hx hb d_X_night_7 (by decide) (fun _ => ?_) (fun h9 => absurd h9 (by decide))
      refine lv_aload_n hx hb d_X_night_12 rfl (lv_at hl 0 rfl) ?_
      refine lv_dup hx hb d_X_night_13 rfl ?_
      refine zget (ci := 10) (fs := [.ref aC, .ref aA, .int (nI n), .int ni, .int ac, .int bl, .long sto]) E hK hP 3 rfl zC_X 3 (by decide) kw_46 (Or.inl rfl) rfl d_X_night_14 ?_
      refine lv_iconst (v := 1) hx hb d_X_night_17 (by decide) ?_
      refine lv_iadd hx hb d_X_night_18 ?_
      refine zput (ci := 10) (fs := [.ref aC, .ref aA, .int (nI n), .int ni, .int ac, .int bl, .long sto]) (ty := .int) (v := .int (ni + 1)) (ws2 := wx c1 c2 c3 aX aC aD aE aA ad d n kk ht tk so lt sto (ni + 1) ac bl t) E hK hP hD hS 3 rfl zC_X t_X o_X n_X 3 (by decide) kw_46 (Or.inl rfl) rfl rfl rfl rfl (Nat.le_of_ble_eq_true rfl) d_X_night_19 (rfl) (fun H locs hP hD hS => ?_)
      refine lv_aload_n hx hb d_X_night_22 rfl (lv_at hl 0 rfl) ?_
      refine zcV (As := []) (rest := []) (ci := 10) E cy_X_anyLit kw_544 ks_3 kw_542 (c_X_anyLit l dC dI c1 c2 c3 A aX aC aD aE aA ad d n kk ht tk so lt sto (ni + 1) ac bl t hn hkk) hK hP hD hS 3 rfl zC_X.1 rfl rfl hl.1 rfl (Nat.le_of_ble_eq_true rfl) ⟨Nat.le_of_ble_eq_true rfl, Nat.le_of_ble_eq_true rfl⟩ d_X_night_23 ⟨Nat.le_refl _, Nat.le_refl _⟩ (fun H locs hP hD hS => ?_)
      rw [h2, show zb false = 0 from rfl]
      refine lv_if_ne (tgt := 31) hx hb d_X_night_26 (by decide) (fun h9 => absurd (rfl) h9) (fun _ => ?_)
      refine lv_iconst (v := 0) hx hb d_X_night_29 (by decide) ?_
      exact zri E hK hP hD hS d_X_night_30
    · have e9 : nightA (d, n, kk, ht, tk, so, lt, sto, ni, ac, bl, t) x = ((nightF kk d x n (0, tk, so, lt, t0 t)).1, (d, n, kk, ht, (nightF kk d x n (0, tk, so, lt, t0 t)).2.1, (nightF kk d x n (0, tk, so, lt, t0 t)).2.2.1, (nightF kk d x n (0, tk, so, lt, t0 t)).2.2.2.1, sto, ni + 1, ac + 1, bl, (nightF kk d x n (0, tk, so, lt, t0 t)).2.2.2.2)) := by show (if _ then _ else _) = _; rw [if_pos h1, if_pos h2]
      rw [e9]
      refine zM_of "CoastLamps" rfl (by decide) (Nat.le_of_ble_eq_true rfl) ?_
      intro p e s m below meth c ls E hP hK hD hS hl
      obtain ⟨hx, hb, hml, ho, hts, hr, hlk⟩ := id E
      have hl : lv_has ls 5 [(0, .ref aX), (1, .int x)] := hl
      refine lv_iload_n hx hb d_X_night_0 rfl (lv_at hl 1 rfl) ?_
      refine lv_iconst (v := 1) hx hb d_X_night_1 (by decide) ?_
      refine lv_bipush (v := 14) hx hb d_X_night_2 (by decide) ?_
      refine zcS (As := [.int x, .int 1, .int 14]) (rest := []) E cy_X_within kw_70 kw_69 rfl (c_X_within l dC dI (t3 c1 c2 c3) A (wx c1 c2 c3 aX aC aD aE aA ad d n kk ht tk so lt sto ni ac bl t) x 1 14) hK hP hD hS rfl hl.1 rfl (Nat.le_of_ble_eq_true rfl) ⟨Nat.le_of_ble_eq_true rfl, Nat.le_of_ble_eq_true rfl⟩ d_X_night_4 ⟨Nat.le_refl _, Nat.le_refl _⟩ (fun H locs hP hD hS => ?_)
      rw [show zb (decide (1 ≤ x ∧ x ≤ 14)) = 1 from by rw [decide_eq_true (h1)]; rfl]
      refine lv_if_ne (tgt := 12) hx hb d_X_night_7 (by decide) (fun _ => ?_) (fun h9 => absurd h9 (by decide))
      refine lv_aload_n hx hb d_X_night_12 rfl (lv_at hl 0 rfl) ?_
      refine lv_dup hx hb d_X_night_13 rfl ?_
      refine zget (ci := 10) (fs := [.ref aC, .ref aA, .int (nI n), .int ni, .int ac, .int bl, .long sto]) E hK hP 3 rfl zC_X 3 (by decide) kw_46 (Or.inl rfl) rfl d_X_night_14 ?_
      refine lv_iconst (v := 1) hx hb d_X_night_17 (by decide) ?_
      refine lv_iadd hx hb d_X_night_18 ?_
      refine zput (ci := 10) (fs := [.ref aC, .ref aA, .int (nI n), .int ni, .int ac, .int bl, .long sto]) (ty := .int) (v := .int (ni + 1)) (ws2 := wx c1 c2 c3 aX aC aD aE aA ad d n kk ht tk so lt sto (ni + 1) ac bl t) E hK hP hD hS 3 rfl zC_X t_X o_X n_X 3 (by decide) kw_46 (Or.inl rfl) rfl rfl rfl rfl (Nat.le_of_ble_eq_true rfl) d_X_night_19 (rfl) (fun H locs hP hD hS => ?_)
      refine lv_aload_n hx hb d_X_night_22 rfl (lv_at hl 0 rfl) ?_
      refine zcV (As := []) (rest := []) (ci := 10) E cy_X_anyLit kw_544 ks_3 kw_542 (c_X_anyLit l dC dI c1 c2 c3 A aX aC aD aE aA ad d n kk ht tk so lt sto (ni + 1) ac bl t hn hkk) hK hP hD hS 3 rfl zC_X.1 rfl rfl hl.1 rfl (Nat.le_of_ble_eq_true rfl) ⟨Nat.le_of_ble_eq_true rfl, Nat.le_of_ble_eq_true rfl⟩ d_X_night_23 ⟨Nat.le_refl _, Nat.le_refl _⟩ (fun H locs hP hD hS => ?_)
      rw [h2, show zb true = 1 from rfl]
      refine lv_if_ne (tgt := 31) hx hb d_X_night_26 (by decide) (fun _ => ?_) (fun h9 => absurd h9 (by decide))
      refine lv_aload_n hx hb d_X_night_31 rfl (lv_at hl 0 rfl) ?_
      refine zcV (As := []) (rest := []) (ci := 10) E cy_X_beginAct kw_262 ks_2 kw_260 (c_X_beginAct l dC dI c1 c2 c3 A aX aC aD aE aA ad d n kk ht tk so lt sto (ni + 1) ac bl t) hK hP hD hS 3 rfl zC_X.1 rfl rfl hl.1 rfl (Nat.le_of_ble_eq_true rfl) ⟨Nat.le_of_ble_eq_true rfl, Nat.le_of_ble_eq_true rfl⟩ d_X_night_32 ⟨Nat.le_refl _, Nat.le_refl _⟩ (fun H locs hP hD hS => ?_)
      have hP : va_P (dC, dI) classes (wx c1 c2 c3 aX aC aD aE aA ad d n kk ht tk so lt sto (ni + 1) (ac + 1) bl (t0 t)) H := hP
      have hD : va_D A (wx c1 c2 c3 aX aC aD aE aA ad d n kk ht tk so lt sto (ni + 1) (ac + 1) bl (t0 t)) := hD
      refine lv_iconst (v := 0) hx hb d_X_night_35 (by decide) ?_
      refine lv_istore_n (lv' := [(2, .int 0), (0, .ref aX), (1, .int x)]) hx hb d_X_night_36 rfl hl (by decide) rfl (fun ls hl => ?_)
      refine lv_iconst (v := 0) hx hb d_X_night_37 (by decide) ?_
      refine lv_istore_n (lv' := [(3, .int 0), (2, .int 0), (0, .ref aX), (1, .int x)]) hx hb d_X_night_38 rfl hl (by decide) rfl (fun ls hl => ?_)
      exact night_X dC dI c1 c2 c3 A aX aC aD aE aA ad d n kk ht sto (ni + 1) (ac + 1) bl x tk so lt t hn hkk E hK n 0 0 tk so lt (t0 t) ls _ _ (by omega) rfl hP hD hS (lv_sub hl [0, 1, 2, 3] rfl)
  · have e9 : nightA (d, n, kk, ht, tk, so, lt, sto, ni, ac, bl, t) x = (-1, (d, n, kk, ht, tk, so, lt, sto, ni, ac, bl, t)) := by show (if _ then _ else _) = _; rw [if_neg h1]
    rw [e9]
    refine zM_of "CoastLamps" rfl (by decide) (Nat.le_of_ble_eq_true rfl) ?_
    intro p e s m below meth c ls E hP hK hD hS hl
    obtain ⟨hx, hb, hml, ho, hts, hr, hlk⟩ := id E
    have hl : lv_has ls 5 [(0, .ref aX), (1, .int x)] := hl
    refine lv_iload_n hx hb d_X_night_0 rfl (lv_at hl 1 rfl) ?_
    refine lv_iconst (v := 1) hx hb d_X_night_1 (by decide) ?_
    refine lv_bipush (v := 14) hx hb d_X_night_2 (by decide) ?_
    refine zcS (As := [.int x, .int 1, .int 14]) (rest := []) E cy_X_within kw_70 kw_69 rfl (c_X_within l dC dI (t3 c1 c2 c3) A (wx c1 c2 c3 aX aC aD aE aA ad d n kk ht tk so lt sto ni ac bl t) x 1 14) hK hP hD hS rfl hl.1 rfl (Nat.le_of_ble_eq_true rfl) ⟨Nat.le_of_ble_eq_true rfl, Nat.le_of_ble_eq_true rfl⟩ d_X_night_4 ⟨Nat.le_refl _, Nat.le_refl _⟩ (fun H locs hP hD hS => ?_)
    rw [show zb (decide (1 ≤ x ∧ x ≤ 14)) = 0 from by rw [decide_eq_false (h1)]; rfl]
    refine lv_if_ne (tgt := 12) hx hb d_X_night_7 (by decide) (fun h9 => absurd (rfl) h9) (fun _ => ?_)
    refine lv_iconst (v := (-1)) hx hb d_X_night_10 (by decide) ?_
    exact zri E hK hP hD hS d_X_night_11
theorem nI_m3 {j : Nat} (h : j < 60) : ¬ nI j = -3 := fun q => by
  have a := nI_pos' (i31 h)
  rw [q] at a
  exact absurd a (by decide)
set_option maxHeartbeats 1000000 in
set_option maxRecDepth 100000 in
theorem seen_X {p : Program} {l : Launch} {e : Env} {s : State} {m : MethodId} {below : List Frame} {meth : Method} {c : Code} (dC : Nat → ClassId) (dI : Nat → Nat → Nat) (c1 c2 c3 : ClassId) (A : Nat → Prop) (aX aC aD aE aA : Nat) (ad : Nat → Nat) (d : Nat → Int32) (n : Nat) (kk : Nat → Nat) (ht tk lt : Nat → Int32) (sto : Int64) (ni ac bl : Int32) (x : Int32) (so0 : Nat → Int32) (tt : zT) (hn : n ≤ 60) (hkk : ∀ i, i < n → kk i < 9) (E : zE p s m [Value.ref aX, Value.int x].toArray meth c "CoastLamps" b_X_seen 7 (some FieldType.int)) (hK : va_K (dC, dI) classes (t3 c1 c2 c3) s) :
    ∀ (q i : Nat) (b : Option Nat) (f : Int32) (so : Nat → Int32) (t : zT) (ls : Array Slot) (H : Heap) (locs : List Loc), i + q = n → (∀ j, b = some j → j < i) → seenF kk d ht lt x i (none, 0, so0, t0 tt) = (b, f, so, t) → va_P (dC, dI) classes (wx c1 c2 c3 aX aC aD aE aA ad d n kk ht tk so lt sto ni ac bl t) H → va_D A (wx c1 c2 c3 aX aC aD aE aA ad d n kk ht tk so lt sto ni ac bl t) → va_S A s.heap H locs → lv_has ls 7 [(4, .int (nI i)), (3, .int f), (2, .int (oI (-3) b)), (0, .ref aX), (1, .int x)] → W p l e (zR 7 160) s m [Value.ref aX, Value.int x].toArray below meth c H locs 0 0 (MQ below (zQ (dC, dI) (t3 c1 c2 c3) A (wx c1 c2 c3 aX aC aD aE aA ad d n kk ht tk (seenF kk d ht lt x n (none, 0, so0, t0 tt)).2.2.1 lt sto ni ac bl (seenF kk d ht lt x n (none, 0, so0, t0 tt)).2.2.2) (some (.int (oI (-3) (seenF kk d ht lt x n (none, 0, so0, t0 tt)).1)))) [Value.ref aX, Value.int x].toArray s 0 0 A) (F0 m 34 ls []) := by
  obtain ⟨hx, hb, hml, ho, hts, hr, hlk⟩ := id E
  intro q
  induction q with
  | zero =>
    intro i b f so t ls H locs hiq hbj hF hP hD hS hl
    obtain rfl : i = n := by omega
    rw [hF]
    dsimp only
    refine lv_iload hx hb d_X_seen_34 (lv_at hl 0 rfl) ?_
    refine lv_aload_n hx hb d_X_seen_36 rfl (lv_at hl 3 rfl) ?_
    refine zget (ci := 10) (fs := [.ref aC, .ref aA, .int (nI i), .int ni, .int ac, .int bl, .long sto]) E hK hP 3 rfl zC_X 2 (by decide) kw_45 (Or.inl rfl) rfl d_X_seen_37 ?_
    refine lv_icmp_ge (tgt := 96) hx hb d_X_seen_40 (by decide) (fun _ => ?_) (fun h9 => absurd (Int32.le_refl _) h9)
    refine lv_iload_n hx hb d_X_seen_96 rfl (lv_at hl 2 rfl) ?_
    exact zri E hK hP hD hS d_X_seen_97
  | succ q ih =>
    intro i b f so t ls H locs hiq hbj hF hP hD hS hl
    have hi0 : i < n := by omega
    have hi : i < 60 := by omega
    have hS1 := seenF_s hF
    refine lv_iload hx hb d_X_seen_34 (lv_at hl 0 rfl) ?_
    refine lv_aload_n hx hb d_X_seen_36 rfl (lv_at hl 3 rfl) ?_
    refine zget (ci := 10) (fs := [.ref aC, .ref aA, .int (nI n), .int ni, .int ac, .int bl, .long sto]) E hK hP 3 rfl zC_X 2 (by decide) kw_45 (Or.inl rfl) rfl d_X_seen_37 ?_
    refine lv_icmp_ge (tgt := 96) hx hb d_X_seen_40 (by decide) (fun h9 => absurd h9 (nI_ge hi0 (by omega))) (fun _ => ?_)
    refine lv_aload_n hx hb d_X_seen_43 rfl (lv_at hl 3 rfl) ?_
    refine lv_iload hx hb d_X_seen_44 (lv_at hl 0 rfl) ?_
    refine zcV (As := [.int (nI i)]) (rest := []) (ci := 10) E cy_X_lampAt kw_257 ks_1 kw_255 (c_X_lampAt_t l dC dI c1 c2 c3 A aX aC aD aE aA ad d n kk ht tk so lt sto ni ac bl t hn i hi0) hK hP hD hS 3 rfl zC_X.1 rfl rfl hl.1 rfl (Nat.le_of_ble_eq_true rfl) ⟨Nat.le_of_ble_eq_true rfl, Nat.le_of_ble_eq_true rfl⟩ d_X_seen_46 ⟨Nat.le_refl _, Nat.le_refl _⟩ (fun H locs hP hD hS => ?_)
    refine lv_astore (lv' := [(5, .ref (ad i)), (4, .int (nI i)), (3, .int f), (2, .int (oI (-3) b)), (0, .ref aX), (1, .int x)]) hx hb d_X_seen_49 hl (by decide) rfl (fun ls hl => ?_)
    refine lv_aload hx hb d_X_seen_51 (lv_at hl 0 rfl) ?_
    refine lv_ifnull hx hb d_X_seen_53 ?_
    refine lv_aload hx hb d_X_seen_56 (lv_at hl 0 rfl) ?_
    refine zget (ci := (kk i)) (fs := [.ref aC, .int (nI (kk i + 1)), .int (ht i), .int (tk i), .int (so i), .int (lt i)]) E hK hP (i + 5) (x_at hi0) (zC_K (hkk i hi0)) 5 (by decide) kw_133 (Or.inl rfl) rfl d_X_seen_58 ?_
    by_cases h2 : lt i = 0
    · refine lv_if_eq (tgt := 90) hx hb d_X_seen_61 (by decide) (fun _ => ?_) (fun h9 => absurd (h2) h9)
      refine lv_iinc (v := nI (i + 1)) (lv' := [(4, .int (nI (i + 1))), (5, .ref (ad i)), (3, .int f), (2, .int (oI (-3) b)), (0, .ref aX), (1, .int x)]) hx hb d_X_seen_90 hl (k := 1) rfl (nI_1 i) (by decide) rfl (fun ls hl => ?_)
      refine lv_goto (tgt := 34) hx hb d_X_seen_93 (by decide) ?_
      exact ih (i + 1) b f _ _ ls H locs (by omega) (fun j hj => Nat.lt_succ_of_lt (hbj j hj)) (hS1.trans (by rw [if_pos h2])) hP hD hS (lv_sub hl [0, 2, 3, 4, 5] rfl)
    · refine lv_if_eq (tgt := 90) hx hb d_X_seen_61 (by decide) (fun h9 => absurd h9 (h2)) (fun _ => ?_)
      refine lv_aload hx hb d_X_seen_64 (lv_at hl 0 rfl) ?_
      refine lv_iload_n hx hb d_X_seen_66 rfl (lv_at hl 5 rfl) ?_
      have hP : va_P (dC, dI) classes (wl c1 c2 aC aD aE (ad i) (kk i) d (nI (kk i + 1)) (ht i) (tk i) (lt i) (wxR c3 aX aC aA ad n kk ht tk so lt sto ni ac bl) (i + 2) (so i, t)) H := by rw [x_fo]; exact hP
      have hD : va_D A (wl c1 c2 aC aD aE (ad i) (kk i) d (nI (kk i + 1)) (ht i) (tk i) (lt i) (wxR c3 aX aC aA ad n kk ht tk so lt sto ni ac bl) (i + 2) (so i, t)) := by rw [x_fo]; exact hD
      refine dv_reach (x := x) (st := []) E (hkk i hi0) (x_len hi0) kw_336 hK hP hD hS hl.1 (Nat.le_of_ble_eq_true rfl) ⟨Nat.le_of_ble_eq_true rfl, Nat.le_of_ble_eq_true rfl⟩ d_X_seen_67 ⟨Nat.le_refl _, Nat.le_refl _⟩ (fun H locs hP hD hS => ?_)
      rw [x_un, upd_me tk i, upd_me lt i] at hP hD
      have hP : va_P (dC, dI) classes (wx c1 c2 c3 aX aC aD aE aA ad d n kk ht tk (upd so i (reachK (kk i) d (ht i) x (so i, t)).2.1) lt sto ni ac bl ((reachK (kk i) d (ht i) x (so i, t)).2.2)) H := hP
      have hD : va_D A (wx c1 c2 c3 aX aC aD aE aA ad d n kk ht tk (upd so i (reachK (kk i) d (ht i) x (so i, t)).2.1) lt sto ni ac bl ((reachK (kk i) d (ht i) x (so i, t)).2.2)) := hD
      refine lv_istore (lv' := [(6, .int ((reachK (kk i) d (ht i) x (so i, t)).1)), (5, .ref (ad i)), (4, .int (nI i)), (3, .int f), (2, .int (oI (-3) b)), (0, .ref aX), (1, .int x)]) hx hb d_X_seen_70 hl (by decide) rfl (fun ls hl => ?_)
      cases b with
      | none =>
        refine lv_iload_n hx hb d_X_seen_72 rfl (lv_at hl 4 rfl) ?_
        refine lv_bipush (v := (-3)) hx hb d_X_seen_73 (by decide) ?_
        refine lv_icmp_eq (tgt := 84) hx hb d_X_seen_75 (by decide) (fun _ => ?_) (fun h9 => absurd (rfl) h9)
        refine lv_iload hx hb d_X_seen_84 (lv_at hl 2 rfl) ?_
        refine lv_istore_n (lv' := [(2, .int (nI i)), (6, .int ((reachK (kk i) d (ht i) x (so i, t)).1)), (5, .ref (ad i)), (4, .int (nI i)), (3, .int f), (0, .ref aX), (1, .int x)]) hx hb d_X_seen_86 rfl hl (by decide) rfl (fun ls hl => ?_)
        refine lv_iload hx hb d_X_seen_87 (lv_at hl 1 rfl) ?_
        refine lv_istore_n (lv' := [(3, .int ((reachK (kk i) d (ht i) x (so i, t)).1)), (2, .int (nI i)), (6, .int ((reachK (kk i) d (ht i) x (so i, t)).1)), (5, .ref (ad i)), (4, .int (nI i)), (0, .ref aX), (1, .int x)]) hx hb d_X_seen_89 rfl hl (by decide) rfl (fun ls hl => ?_)
        refine lv_iinc (v := nI (i + 1)) (lv' := [(4, .int (nI (i + 1))), (3, .int ((reachK (kk i) d (ht i) x (so i, t)).1)), (2, .int (nI i)), (6, .int ((reachK (kk i) d (ht i) x (so i, t)).1)), (5, .ref (ad i)), (0, .ref aX), (1, .int x)]) hx hb d_X_seen_90 hl (k := 4) rfl (nI_1 i) (by decide) rfl (fun ls hl => ?_)
        refine lv_goto (tgt := 34) hx hb d_X_seen_93 (by decide) ?_
        exact ih (i + 1) (some i) (reachK (kk i) d (ht i) x (so i, t)).1 _ _ ls H locs (by omega) (fun j hj => by cases hj; exact Nat.lt_succ_self _) (hS1.trans (by rw [if_neg h2, if_pos (Or.inl rfl)])) hP hD hS (lv_sub hl [0, 1, 2, 5, 6] rfl)
      | some j0 =>
        have hj0 : j0 < i := hbj j0 rfl
        by_cases h3 : f < (reachK (kk i) d (ht i) x (so i, t)).1
        · refine lv_iload_n hx hb d_X_seen_72 rfl (lv_at hl 4 rfl) ?_
          refine lv_bipush (v := (-3)) hx hb d_X_seen_73 (by decide) ?_
          refine lv_icmp_eq (tgt := 84) hx hb d_X_seen_75 (by decide) (fun h9 => absurd h9 (nI_m3 (by omega))) (fun _ => ?_)
          refine lv_iload hx hb d_X_seen_78 (lv_at hl 0 rfl) ?_
          refine lv_iload_n hx hb d_X_seen_80 rfl (lv_at hl 3 rfl) ?_
          refine lv_icmp_le (tgt := 90) hx hb d_X_seen_81 (by decide) (fun h9 => absurd h9 (Int32.not_le.mpr h3)) (fun _ => ?_)
          refine lv_iload hx hb d_X_seen_84 (lv_at hl 2 rfl) ?_
          refine lv_istore_n (lv' := [(2, .int (nI i)), (6, .int ((reachK (kk i) d (ht i) x (so i, t)).1)), (5, .ref (ad i)), (4, .int (nI i)), (3, .int f), (0, .ref aX), (1, .int x)]) hx hb d_X_seen_86 rfl hl (by decide) rfl (fun ls hl => ?_)
          refine lv_iload hx hb d_X_seen_87 (lv_at hl 1 rfl) ?_
          refine lv_istore_n (lv' := [(3, .int ((reachK (kk i) d (ht i) x (so i, t)).1)), (2, .int (nI i)), (6, .int ((reachK (kk i) d (ht i) x (so i, t)).1)), (5, .ref (ad i)), (4, .int (nI i)), (0, .ref aX), (1, .int x)]) hx hb d_X_seen_89 rfl hl (by decide) rfl (fun ls hl => ?_)
          refine lv_iinc (v := nI (i + 1)) (lv' := [(4, .int (nI (i + 1))), (3, .int ((reachK (kk i) d (ht i) x (so i, t)).1)), (2, .int (nI i)), (6, .int ((reachK (kk i) d (ht i) x (so i, t)).1)), (5, .ref (ad i)), (0, .ref aX), (1, .int x)]) hx hb d_X_seen_90 hl (k := 4) rfl (nI_1 i) (by decide) rfl (fun ls hl => ?_)
          refine lv_goto (tgt := 34) hx hb d_X_seen_93 (by decide) ?_
          exact ih (i + 1) (some i) (reachK (kk i) d (ht i) x (so i, t)).1 _ _ ls H locs (by omega) (fun j hj => by cases hj; exact Nat.lt_succ_self _) (hS1.trans (by rw [if_neg h2, if_pos (Or.inr h3)])) hP hD hS (lv_sub hl [0, 1, 2, 5, 6] rfl)
        · refine lv_iload_n hx hb d_X_seen_72 rfl (lv_at hl 4 rfl) ?_
          refine lv_bipush (v := (-3)) hx hb d_X_seen_73 (by decide) ?_
          refine lv_icmp_eq (tgt := 84) hx hb d_X_seen_75 (by decide) (fun h9 => absurd h9 (nI_m3 (by omega))) (fun _ => ?_)
          refine lv_iload hx hb d_X_seen_78 (lv_at hl 0 rfl) ?_
          refine lv_iload_n hx hb d_X_seen_80 rfl (lv_at hl 3 rfl) ?_
          refine lv_icmp_le (tgt := 90) hx hb d_X_seen_81 (by decide) (fun _ => ?_) (fun h9 => absurd (Int32.not_lt.mp h3) h9)
          refine lv_iinc (v := nI (i + 1)) (lv' := [(4, .int (nI (i + 1))), (6, .int ((reachK (kk i) d (ht i) x (so i, t)).1)), (5, .ref (ad i)), (3, .int f), (2, .int (nI j0)), (0, .ref aX), (1, .int x)]) hx hb d_X_seen_90 hl (k := 2) rfl (nI_1 i) (by decide) rfl (fun ls hl => ?_)
          refine lv_goto (tgt := 34) hx hb d_X_seen_93 (by decide) ?_
          exact ih (i + 1) (some j0) f _ _ ls H locs (by omega) (fun j hj => Nat.lt_succ_of_lt (hbj j hj)) (hS1.trans (by rw [if_neg h2, if_neg (fun h => h.elim (fun z => by cases z) h3)])) hP hD hS (lv_sub hl [0, 3, 4, 5, 6] rfl)
set_option maxHeartbeats 1000000 in
set_option maxRecDepth 100000 in
theorem c_X_seen (l : Launch) (dC : Nat → ClassId) (dI : Nat → Nat → Nat) (c1 c2 c3 : ClassId) (A : Nat → Prop) (aX aC aD aE aA : Nat) (ad : Nat → Nat) (d : Nat → Int32) (n : Nat) (kk : Nat → Nat) (ht tk so lt : Nat → Int32) (sto : Int64) (ni ac bl : Int32) (t : zT) (hI : zInv (d, n, kk, ht, tk, so, lt, sto, ni, ac, bl, t)) (x : Int32) : zM l y_X_seen b_X_seen 7 (some (FieldType.int)) 7 160 [.ref aX, .int x] (dC, dI) (t3 c1 c2 c3) A (xW c1 c2 c3 aX aC aD aE aA ad (d, n, kk, ht, tk, so, lt, sto, ni, ac, bl, t)) (xW c1 c2 c3 aX aC aD aE aA ad (seenA (d, n, kk, ht, tk, so, lt, sto, ni, ac, bl, t) x).2) (some (.int (seenA (d, n, kk, ht, tk, so, lt, sto, ni, ac, bl, t) x).1)) := by
  obtain ⟨hn, hkk, hz⟩ : n ≤ 60 ∧ (∀ i, i < n → kk i < 9) ∧ ∀ i, n ≤ i → tk i = 0 ∧ so i = 0 ∧ lt i = 0 := hI
  by_cases h1 : 0 ≤ x ∧ x ≤ 9
  · cases h2 : anyL lt n
    · have e9 : seenA (d, n, kk, ht, tk, so, lt, sto, ni, ac, bl, t) x = (-3, (d, n, kk, ht, tk, so, lt, sto, ni, ac, bl, t)) := by show (if _ then _ else _) = _; rw [if_pos h1, if_neg (by rw [h2]; decide)]
      rw [e9]
      refine zM_of "CoastLamps" rfl (by decide) (Nat.le_of_ble_eq_true rfl) ?_
      intro p e s m below meth c ls E hP hK hD hS hl
      obtain ⟨hx, hb, hml, ho, hts, hr, hlk⟩ := id E
      have hl : lv_has ls 7 [(0, .ref aX), (1, .int x)] := hl
      refine lv_iload_n hx hb d_X_seen_0 rfl (lv_at hl 1 rfl) ?_
      refine lv_iconst (v := 0) hx hb d_X_seen_1 (by decide) ?_
      refine lv_bipush (v := 9) hx hb d_X_seen_2 (by decide) ?_
      refine zcS (As := [.int x, .int 0, .int 9]) (rest := []) E cy_X_within kw_70 kw_69 rfl (c_X_within l dC dI (t3 c1 c2 c3) A (wx c1 c2 c3 aX aC aD aE aA ad d n kk ht tk so lt sto ni ac bl t) x 0 9) hK hP hD hS rfl hl.1 rfl (Nat.le_of_ble_eq_true rfl) ⟨Nat.le_of_ble_eq_true rfl, Nat.le_of_ble_eq_true rfl⟩ d_X_seen_4 ⟨Nat.le_refl _, Nat.le_refl _⟩ (fun H locs hP hD hS => ?_)
      rw [show zb (decide (0 ≤ x ∧ x ≤ 9)) = 1 from by rw [decide_eq_true (h1)]; rfl]
      refine lv_if_ne (tgt := 12) hx hb d_X_seen_7 (by decide) (fun _ => ?_) (fun h9 => absurd h9 (by decide))
      refine lv_aload_n hx hb d_X_seen_12 rfl (lv_at hl 0 rfl) ?_
      refine zcV (As := []) (rest := []) (ci := 10) E cy_X_anyLit kw_544 ks_3 kw_542 (c_X_anyLit l dC dI c1 c2 c3 A aX aC aD aE aA ad d n kk ht tk so lt sto ni ac bl t hn hkk) hK hP hD hS 3 rfl zC_X.1 rfl rfl hl.1 rfl (Nat.le_of_ble_eq_true rfl) ⟨Nat.le_of_ble_eq_true rfl, Nat.le_of_ble_eq_true rfl⟩ d_X_seen_13 ⟨Nat.le_refl _, Nat.le_refl _⟩ (fun H locs hP hD hS => ?_)
      rw [h2, show zb false = 0 from rfl]
      refine lv_if_ne (tgt := 22) hx hb d_X_seen_16 (by decide) (fun h9 => absurd (rfl) h9) (fun _ => ?_)
      refine lv_bipush (v := (-3)) hx hb d_X_seen_19 (by decide) ?_
      exact zri E hK hP hD hS d_X_seen_21
    · have e9 : seenA (d, n, kk, ht, tk, so, lt, sto, ni, ac, bl, t) x = (oI 0 (seenF kk d ht lt x n (none, 0, so, t0 t)).1, (d, n, kk, ht, tk, (seenF kk d ht lt x n (none, 0, so, t0 t)).2.2.1, lt, sto, ni, ac + 1, bl, (seenF kk d ht lt x n (none, 0, so, t0 t)).2.2.2)) := by show (if _ then _ else _) = _; rw [if_pos h1, if_pos h2]
      rw [e9]
      obtain ⟨j9, hj9⟩ := seen_some kk d ht lt x (none, 0, so, t0 t) n h2
      rw [show oI 0 (seenF kk d ht lt x n (none, 0, so, t0 t)).1 = oI (-3) (seenF kk d ht lt x n (none, 0, so, t0 t)).1 from by rw [hj9]; rfl]
      refine zM_of "CoastLamps" rfl (by decide) (Nat.le_of_ble_eq_true rfl) ?_
      intro p e s m below meth c ls E hP hK hD hS hl
      obtain ⟨hx, hb, hml, ho, hts, hr, hlk⟩ := id E
      have hl : lv_has ls 7 [(0, .ref aX), (1, .int x)] := hl
      refine lv_iload_n hx hb d_X_seen_0 rfl (lv_at hl 1 rfl) ?_
      refine lv_iconst (v := 0) hx hb d_X_seen_1 (by decide) ?_
      refine lv_bipush (v := 9) hx hb d_X_seen_2 (by decide) ?_
      refine zcS (As := [.int x, .int 0, .int 9]) (rest := []) E cy_X_within kw_70 kw_69 rfl (c_X_within l dC dI (t3 c1 c2 c3) A (wx c1 c2 c3 aX aC aD aE aA ad d n kk ht tk so lt sto ni ac bl t) x 0 9) hK hP hD hS rfl hl.1 rfl (Nat.le_of_ble_eq_true rfl) ⟨Nat.le_of_ble_eq_true rfl, Nat.le_of_ble_eq_true rfl⟩ d_X_seen_4 ⟨Nat.le_refl _, Nat.le_refl _⟩ (fun H locs hP hD hS => ?_)
      rw [show zb (decide (0 ≤ x ∧ x ≤ 9)) = 1 from by rw [decide_eq_true (h1)]; rfl]
      refine lv_if_ne (tgt := 12) hx hb d_X_seen_7 (by decide) (fun _ => ?_) (fun h9 => absurd h9 (by decide))
      refine lv_aload_n hx hb d_X_seen_12 rfl (lv_at hl 0 rfl) ?_
      refine zcV (As := []) (rest := []) (ci := 10) E cy_X_anyLit kw_544 ks_3 kw_542 (c_X_anyLit l dC dI c1 c2 c3 A aX aC aD aE aA ad d n kk ht tk so lt sto ni ac bl t hn hkk) hK hP hD hS 3 rfl zC_X.1 rfl rfl hl.1 rfl (Nat.le_of_ble_eq_true rfl) ⟨Nat.le_of_ble_eq_true rfl, Nat.le_of_ble_eq_true rfl⟩ d_X_seen_13 ⟨Nat.le_refl _, Nat.le_refl _⟩ (fun H locs hP hD hS => ?_)
      rw [h2, show zb true = 1 from rfl]
      refine lv_if_ne (tgt := 22) hx hb d_X_seen_16 (by decide) (fun _ => ?_) (fun h9 => absurd h9 (by decide))
      refine lv_aload_n hx hb d_X_seen_22 rfl (lv_at hl 0 rfl) ?_
      refine zcV (As := []) (rest := []) (ci := 10) E cy_X_beginAct kw_262 ks_2 kw_260 (c_X_beginAct l dC dI c1 c2 c3 A aX aC aD aE aA ad d n kk ht tk so lt sto ni ac bl t) hK hP hD hS 3 rfl zC_X.1 rfl rfl hl.1 rfl (Nat.le_of_ble_eq_true rfl) ⟨Nat.le_of_ble_eq_true rfl, Nat.le_of_ble_eq_true rfl⟩ d_X_seen_23 ⟨Nat.le_refl _, Nat.le_refl _⟩ (fun H locs hP hD hS => ?_)
      have hP : va_P (dC, dI) classes (wx c1 c2 c3 aX aC aD aE aA ad d n kk ht tk so lt sto ni (ac + 1) bl (t0 t)) H := hP
      have hD : va_D A (wx c1 c2 c3 aX aC aD aE aA ad d n kk ht tk so lt sto ni (ac + 1) bl (t0 t)) := hD
      refine lv_bipush (v := (-3)) hx hb d_X_seen_26 (by decide) ?_
      refine lv_istore_n (lv' := [(2, .int (-3)), (0, .ref aX), (1, .int x)]) hx hb d_X_seen_28 rfl hl (by decide) rfl (fun ls hl => ?_)
      refine lv_iconst (v := 0) hx hb d_X_seen_29 (by decide) ?_
      refine lv_istore_n (lv' := [(3, .int 0), (2, .int (-3)), (0, .ref aX), (1, .int x)]) hx hb d_X_seen_30 rfl hl (by decide) rfl (fun ls hl => ?_)
      refine lv_iconst (v := 0) hx hb d_X_seen_31 (by decide) ?_
      refine lv_istore (lv' := [(4, .int 0), (3, .int 0), (2, .int (-3)), (0, .ref aX), (1, .int x)]) hx hb d_X_seen_32 hl (by decide) rfl (fun ls hl => ?_)
      exact seen_X dC dI c1 c2 c3 A aX aC aD aE aA ad d n kk ht tk lt sto ni (ac + 1) bl x so t hn hkk E hK n 0 none 0 so (t0 t) ls _ _ (by omega) (fun j h => by cases h) rfl hP hD hS (lv_sub hl [0, 1, 2, 3, 4] rfl)
  · have e9 : seenA (d, n, kk, ht, tk, so, lt, sto, ni, ac, bl, t) x = (-1, (d, n, kk, ht, tk, so, lt, sto, ni, ac, bl, t)) := by show (if _ then _ else _) = _; rw [if_neg h1]
    rw [e9]
    refine zM_of "CoastLamps" rfl (by decide) (Nat.le_of_ble_eq_true rfl) ?_
    intro p e s m below meth c ls E hP hK hD hS hl
    obtain ⟨hx, hb, hml, ho, hts, hr, hlk⟩ := id E
    have hl : lv_has ls 7 [(0, .ref aX), (1, .int x)] := hl
    refine lv_iload_n hx hb d_X_seen_0 rfl (lv_at hl 1 rfl) ?_
    refine lv_iconst (v := 0) hx hb d_X_seen_1 (by decide) ?_
    refine lv_bipush (v := 9) hx hb d_X_seen_2 (by decide) ?_
    refine zcS (As := [.int x, .int 0, .int 9]) (rest := []) E cy_X_within kw_70 kw_69 rfl (c_X_within l dC dI (t3 c1 c2 c3) A (wx c1 c2 c3 aX aC aD aE aA ad d n kk ht tk so lt sto ni ac bl t) x 0 9) hK hP hD hS rfl hl.1 rfl (Nat.le_of_ble_eq_true rfl) ⟨Nat.le_of_ble_eq_true rfl, Nat.le_of_ble_eq_true rfl⟩ d_X_seen_4 ⟨Nat.le_refl _, Nat.le_refl _⟩ (fun H locs hP hD hS => ?_)
    rw [show zb (decide (0 ≤ x ∧ x ≤ 9)) = 0 from by rw [decide_eq_false (h1)]; rfl]
    refine lv_if_ne (tgt := 12) hx hb d_X_seen_7 (by decide) (fun h9 => absurd (rfl) h9) (fun _ => ?_)
    refine lv_iconst (v := (-1)) hx hb d_X_seen_10 (by decide) ?_
    exact zri E hK hP hD hS d_X_seen_11
