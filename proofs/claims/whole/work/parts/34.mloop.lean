theorem nightF_s {kk : Nat → Nat} {d : Nat → Int32} {h : Int32} {i : Nat} {s : Int32 × (Nat → Int32) × (Nat → Int32) × (Nat → Int32) × zT} {o : Int32} {tk so lt : Nat → Int32} {t : zT} (hF : nightF kk d h i s = (o, tk, so, lt, t)) : nightF kk d h (i + 1) s = if lt i = 0 then (o, tk, so, lt, t) else
        (if tk i ≤ (if (burnK (kk i) d h (so i, t)).1 < 0 then 0 else (burnK (kk i) d h (so i, t)).1) then (o + 1, upd tk i 0, upd so i (burnK (kk i) d h (so i, t)).2.1, upd lt i 0, (burnK (kk i) d h (so i, t)).2.2)
         else (o, upd tk i (tk i - (if (burnK (kk i) d h (so i, t)).1 < 0 then 0 else (burnK (kk i) d h (so i, t)).1)), upd so i (burnK (kk i) d h (so i, t)).2.1, lt, (burnK (kk i) d h (so i, t)).2.2)) := by
  rw [nightF, hF]
theorem seenF_s {kk : Nat → Nat} {d ht lt : Nat → Int32} {m : Int32} {i : Nat} {s : Option Nat × Int32 × (Nat → Int32) × zT} {b : Option Nat} {f : Int32} {so : Nat → Int32} {t : zT} (hF : seenF kk d ht lt m i s = (b, f, so, t)) : seenF kk d ht lt m (i + 1) s = if lt i = 0 then (b, f, so, t) else
        (if b = none ∨ f < (reachK (kk i) d (ht i) m (so i, t)).1 then (some i, (reachK (kk i) d (ht i) m (so i, t)).1, upd so i (reachK (kk i) d (ht i) m (so i, t)).2.1, (reachK (kk i) d (ht i) m (so i, t)).2.2)
         else (b, f, upd so i (reachK (kk i) d (ht i) m (so i, t)).2.1, (reachK (kk i) d (ht i) m (so i, t)).2.2)) := by
  rw [seenF, hF]
set_option maxHeartbeats 1000000 in
set_option maxRecDepth 100000 in
theorem night_M {p : Program} {l : Launch} {e : Env} {s : State} {m : MethodId} {below : List Frame} {meth : Method} {c : Code} (dC : Nat → ClassId) (dI : Nat → Nat → Nat) (g1 g2 g3 g4 g5 g6 g7 : ClassId) (A : Nat → Prop) (aM m1 m2 m3 m4 m5 m6 m7 : Nat) (d : Nat → Int32) (n : Nat) (kk : Nat → Nat) (ht : Nat → Int32) (sto : Int64) (ni ac bl : Int32) (x : Int32) (tk0 so0 lt0 : Nat → Int32) (tt : zT) (hn : n ≤ 60) (hkk : ∀ i, i < n → kk i < 9) (E : zE p s m [Value.ref aM, Value.int x].toArray meth c "CoastLampsModel" b_M_night 5 (some FieldType.int)) (hK : va_K (dC, dI) classes (t7 g1 g2 g3 g4 g5 g6 g7) s) :
    ∀ (q i : Nat) (o : Int32) (tk so lt : Nat → Int32) (t : zT) (ls : Array Slot) (H : Heap) (locs : List Loc), i + q = n → nightF kk d x i (0, tk0, so0, lt0, t0 tt) = (o, tk, so, lt, t) → va_P (dC, dI) classes (wm g1 g2 g3 g4 g5 g6 g7 aM m1 m2 m3 m4 m5 m6 m7 d n (kdF kk) ht tk so lt sto ni ac bl t) H → va_D A (wm g1 g2 g3 g4 g5 g6 g7 aM m1 m2 m3 m4 m5 m6 m7 d n (kdF kk) ht tk so lt sto ni ac bl t) → va_S A s.heap H locs → lv_has ls 5 [(3, .int (nI i)), (2, .int o), (0, .ref aM), (1, .int x)] → W p l e (zR 6 133) s m [Value.ref aM, Value.int x].toArray below meth c H locs 0 0 (MQ below (zQ (dC, dI) (t7 g1 g2 g3 g4 g5 g6 g7) A (wm g1 g2 g3 g4 g5 g6 g7 aM m1 m2 m3 m4 m5 m6 m7 d n (kdF kk) ht (nightF kk d x n (0, tk0, so0, lt0, t0 tt)).2.1 (nightF kk d x n (0, tk0, so0, lt0, t0 tt)).2.2.1 (nightF kk d x n (0, tk0, so0, lt0, t0 tt)).2.2.2.1 sto ni ac bl (nightF kk d x n (0, tk0, so0, lt0, t0 tt)).2.2.2.2) (some (.int (nightF kk d x n (0, tk0, so0, lt0, t0 tt)).1))) [Value.ref aM, Value.int x].toArray s 0 0 A) (F0 m 39 ls []) := by
  obtain ⟨hx, hb, hml, ho, hts, hr, hlk⟩ := id E
  intro q
  induction q with
  | zero =>
    intro i o tk so lt t ls H locs hiq hF hP hD hS hl
    obtain rfl : i = n := by omega
    rw [hF]
    dsimp only
    refine lv_iload_n hx hb d_M_night_39 rfl (lv_at hl 0 rfl) ?_
    refine lv_aload_n hx hb d_M_night_40 rfl (lv_at hl 2 rfl) ?_
    refine zget (ci := 11) (fs := [.ref m1, .int (nI i), .ref m2, .ref m3, .ref m4, .ref m5, .ref m6, .long sto, .int ni, .int ac, .int bl, .ref m7, .int (nI t.2.1)]) E hK hP 0 rfl zC_M 1 (by decide) kw_591 (Or.inl rfl) rfl d_M_night_41 ?_
    refine lv_icmp_ge (tgt := 125) hx hb d_M_night_44 (by decide) (fun _ => ?_) (fun h9 => absurd (Int32.le_refl _) h9)
    refine lv_iload_n hx hb d_M_night_125 rfl (lv_at hl 1 rfl) ?_
    exact zri E hK hP hD hS d_M_night_126
  | succ q ih =>
    intro i o tk so lt t ls H locs hiq hF hP hD hS hl
    have hi0 : i < n := by omega
    have hi : i < 60 := by omega
    have hkd : kdF kk i = nI (kk i + 1) := rfl
    have hS1 := nightF_s hF
    refine lv_iload_n hx hb d_M_night_39 rfl (lv_at hl 0 rfl) ?_
    refine lv_aload_n hx hb d_M_night_40 rfl (lv_at hl 2 rfl) ?_
    refine zget (ci := 11) (fs := [.ref m1, .int (nI n), .ref m2, .ref m3, .ref m4, .ref m5, .ref m6, .long sto, .int ni, .int ac, .int bl, .ref m7, .int (nI t.2.1)]) E hK hP 0 rfl zC_M 1 (by decide) kw_591 (Or.inl rfl) rfl d_M_night_41 ?_
    refine lv_icmp_ge (tgt := 125) hx hb d_M_night_44 (by decide) (fun h9 => absurd h9 (nI_ge hi0 (by omega))) (fun _ => ?_)
    refine lv_aload_n hx hb d_M_night_47 rfl (lv_at hl 2 rfl) ?_
    refine zget (ci := 11) (fs := [.ref m1, .int (nI n), .ref m2, .ref m3, .ref m4, .ref m5, .ref m6, .long sto, .int ni, .int ac, .int bl, .ref m7, .int (nI t.2.1)]) E hK hP 0 rfl zC_M 6 (by decide) kw_596 (Or.inl rfl) rfl d_M_night_48 ?_
    refine lv_iload_n hx hb d_M_night_51 rfl (lv_at hl 0 rfl) ?_
    refine va_zald hx hb hK hP 6 5 rfl rfl (vp_in_nI hi (by decide)) d_M_night_52 ?_
    rw [nI_clamp (i31 hi)]
    by_cases h2 : lt i = 0
    · refine lv_if_eq (tgt := 119) hx hb d_M_night_53 (by decide) (fun _ => ?_) (fun h9 => absurd (h2) h9)
      refine lv_iinc (v := nI (i + 1)) (lv' := [(3, .int (nI (i + 1))), (2, .int o), (0, .ref aM), (1, .int x)]) hx hb d_M_night_119 hl (k := 0) rfl (nI_1 i) (by decide) rfl (fun ls hl => ?_)
      refine lv_goto (tgt := 39) hx hb d_M_night_122 (by decide) ?_
      refine ih (i + 1) _ _ _ _ _ ls H locs (by omega) (hS1.trans (by rw [if_pos h2])) hP hD hS (lv_sub hl [0, 1, 2, 3] rfl)
    · refine lv_if_eq (tgt := 119) hx hb d_M_night_53 (by decide) (fun h9 => absurd h9 (h2)) (fun _ => ?_)
      refine lv_aload_n hx hb d_M_night_56 rfl (lv_at hl 2 rfl) ?_
      refine lv_iload_n hx hb d_M_night_57 rfl (lv_at hl 0 rfl) ?_
      refine lv_iload_n hx hb d_M_night_58 rfl (lv_at hl 3 rfl) ?_
      have hP : va_P (dC, dI) classes (wm g1 g2 g3 g4 g5 g6 g7 aM m1 m2 m3 m4 m5 m6 m7 d n (kdF kk) ht tk (upd so i ((so i, t) : zS).1) lt sto ni ac bl ((so i, t) : zS).2) H := by rw [show upd so i (((so i, t) : zS)).1 = so from upd_me so i]; exact hP
      have hD : va_D A (wm g1 g2 g3 g4 g5 g6 g7 aM m1 m2 m3 m4 m5 m6 m7 d n (kdF kk) ht tk (upd so i ((so i, t) : zS).1) lt sto ni ac bl ((so i, t) : zS).2) := by rw [show upd so i (((so i, t) : zS)).1 = so from upd_me so i]; exact hD
      refine zcV (As := [.int (nI i), .int x]) (rest := []) (ci := 11) E cy_M_burn kw_662 ks_7 kw_660 (c_M_burn l dC dI g1 g2 g3 g4 g5 g6 g7 A aM m1 m2 m3 m4 m5 m6 m7 d n (kdF kk) ht tk so lt sto ni ac bl i hi (so i, t) (kk i) (hkk i hi0) hkd x) hK hP hD hS 0 rfl zC_M.1 rfl rfl hl.1 rfl (Nat.le_of_ble_eq_true rfl) ⟨Nat.le_of_ble_eq_true rfl, Nat.le_of_ble_eq_true rfl⟩ d_M_night_59 ⟨Nat.le_refl _, Nat.le_refl _⟩ (fun H locs hP hD hS => ?_)
      have hP : va_P (dC, dI) classes (wm g1 g2 g3 g4 g5 g6 g7 aM m1 m2 m3 m4 m5 m6 m7 d n (kdF kk) ht tk (upd so i ((burnK (kk i) d x (so i, t)).2 : zS).1) lt sto ni ac bl ((burnK (kk i) d x (so i, t)).2 : zS).2) H := hP
      have hD : va_D A (wm g1 g2 g3 g4 g5 g6 g7 aM m1 m2 m3 m4 m5 m6 m7 d n (kdF kk) ht tk (upd so i ((burnK (kk i) d x (so i, t)).2 : zS).1) lt sto ni ac bl ((burnK (kk i) d x (so i, t)).2 : zS).2) := hD
      refine lv_istore (lv' := [(4, .int ((burnK (kk i) d x (so i, t)).1)), (3, .int (nI i)), (2, .int o), (0, .ref aM), (1, .int x)]) hx hb d_M_night_62 hl (by decide) rfl (fun ls hl => ?_)
      refine lv_iload hx hb d_M_night_64 (lv_at hl 0 rfl) ?_
      by_cases h3 : (burnK (kk i) d x (so i, t)).1 < 0
      · by_cases h4 : tk i ≤ 0
        · refine lv_if_ge (tgt := 73) hx hb d_M_night_66 (by decide) (fun h9 => absurd h9 (Int32.not_le.mpr h3)) (fun _ => ?_)
          refine lv_iconst (v := 0) hx hb d_M_night_69 (by decide) ?_
          refine lv_goto (tgt := 75) hx hb d_M_night_70 (by decide) ?_
          refine lv_istore (lv' := [(4, .int 0), (3, .int (nI i)), (2, .int o), (0, .ref aM), (1, .int x)]) hx hb d_M_night_75 hl (by decide) rfl (fun ls hl => ?_)
          refine lv_aload_n hx hb d_M_night_77 rfl (lv_at hl 3 rfl) ?_
          refine zget (ci := 11) (fs := [.ref m1, .int (nI n), .ref m2, .ref m3, .ref m4, .ref m5, .ref m6, .long sto, .int ni, .int ac, .int bl, .ref m7, .int (nI (((burnK (kk i) d x (so i, t)).2).2).2.1)]) E hK hP 0 rfl zC_M 4 (by decide) kw_594 (Or.inl rfl) rfl d_M_night_78 ?_
          refine lv_iload_n hx hb d_M_night_81 rfl (lv_at hl 1 rfl) ?_
          refine va_iald hx hb hK hP 4 3 rfl rfl (vp_in_nI hi (by decide)) d_M_night_82 ?_
          rw [nI_clamp (i31 hi)]
          refine lv_iload hx hb d_M_night_83 (lv_at hl 0 rfl) ?_
          refine lv_icmp_gt (tgt := 108) hx hb d_M_night_85 (by decide) (fun h9 => absurd h9 (Int32.not_lt.mpr h4)) (fun _ => ?_)
          refine lv_aload_n hx hb d_M_night_88 rfl (lv_at hl 3 rfl) ?_
          refine zget (ci := 11) (fs := [.ref m1, .int (nI n), .ref m2, .ref m3, .ref m4, .ref m5, .ref m6, .long sto, .int ni, .int ac, .int bl, .ref m7, .int (nI (((burnK (kk i) d x (so i, t)).2).2).2.1)]) E hK hP 0 rfl zC_M 4 (by decide) kw_594 (Or.inl rfl) rfl d_M_night_89 ?_
          refine lv_iload_n hx hb d_M_night_92 rfl (lv_at hl 1 rfl) ?_
          refine lv_iconst (v := 0) hx hb d_M_night_93 (by decide) ?_
          refine va_iast hx hb hK hP hD hS 4 3 rfl rfl (vp_in_nI hi (by decide)) d_M_night_94 (fun H locs hP hD hS => ?_)
          rw [nI_clamp (i31 hi)] at hP hD
          have hP : va_P (dC, dI) classes (wm g1 g2 g3 g4 g5 g6 g7 aM m1 m2 m3 m4 m5 m6 m7 d n (kdF kk) ht (upd tk i 0) (upd so i ((burnK (kk i) d x (so i, t)).2).1) lt sto ni ac bl (((burnK (kk i) d x (so i, t)).2).2)) H := hP
          have hD : va_D A (wm g1 g2 g3 g4 g5 g6 g7 aM m1 m2 m3 m4 m5 m6 m7 d n (kdF kk) ht (upd tk i 0) (upd so i ((burnK (kk i) d x (so i, t)).2).1) lt sto ni ac bl (((burnK (kk i) d x (so i, t)).2).2)) := hD
          refine lv_aload_n hx hb d_M_night_95 rfl (lv_at hl 3 rfl) ?_
          refine zget (ci := 11) (fs := [.ref m1, .int (nI n), .ref m2, .ref m3, .ref m4, .ref m5, .ref m6, .long sto, .int ni, .int ac, .int bl, .ref m7, .int (nI (((burnK (kk i) d x (so i, t)).2).2).2.1)]) E hK hP 0 rfl zC_M 6 (by decide) kw_596 (Or.inl rfl) rfl d_M_night_96 ?_
          refine lv_iload_n hx hb d_M_night_99 rfl (lv_at hl 1 rfl) ?_
          refine lv_iconst (v := 0) hx hb d_M_night_100 (by decide) ?_
          refine va_zast hx hb hK hP hD hS 6 5 rfl rfl (vp_in_nI hi (by decide)) d_M_night_101 (fun H locs hP hD hS => ?_)
          rw [nI_clamp (i31 hi)] at hP hD
          rw [show vp_nar .boolean 0 = 0 from rfl] at hP hD
          have hP : va_P (dC, dI) classes (wm g1 g2 g3 g4 g5 g6 g7 aM m1 m2 m3 m4 m5 m6 m7 d n (kdF kk) ht (upd tk i 0) (upd so i ((burnK (kk i) d x (so i, t)).2).1) (upd lt i 0) sto ni ac bl (((burnK (kk i) d x (so i, t)).2).2)) H := hP
          have hD : va_D A (wm g1 g2 g3 g4 g5 g6 g7 aM m1 m2 m3 m4 m5 m6 m7 d n (kdF kk) ht (upd tk i 0) (upd so i ((burnK (kk i) d x (so i, t)).2).1) (upd lt i 0) sto ni ac bl (((burnK (kk i) d x (so i, t)).2).2)) := hD
          refine lv_iinc (v := o + 1) (lv' := [(2, .int (o + 1)), (4, .int 0), (3, .int (nI i)), (0, .ref aM), (1, .int x)]) hx hb d_M_night_102 hl (k := 2) rfl (rfl) (by decide) rfl (fun ls hl => ?_)
          refine lv_goto (tgt := 119) hx hb d_M_night_105 (by decide) ?_
          refine lv_iinc (v := nI (i + 1)) (lv' := [(3, .int (nI (i + 1))), (2, .int (o + 1)), (4, .int 0), (0, .ref aM), (1, .int x)]) hx hb d_M_night_119 hl (k := 2) rfl (nI_1 i) (by decide) rfl (fun ls hl => ?_)
          refine lv_goto (tgt := 39) hx hb d_M_night_122 (by decide) ?_
          refine ih (i + 1) _ _ _ _ _ ls H locs (by omega) (hS1.trans (by rw [if_neg h2, if_pos h3, if_pos h4])) hP hD hS (lv_sub hl [0, 1, 3, 4] rfl)
        · refine lv_if_ge (tgt := 73) hx hb d_M_night_66 (by decide) (fun h9 => absurd h9 (Int32.not_le.mpr h3)) (fun _ => ?_)
          refine lv_iconst (v := 0) hx hb d_M_night_69 (by decide) ?_
          refine lv_goto (tgt := 75) hx hb d_M_night_70 (by decide) ?_
          refine lv_istore (lv' := [(4, .int 0), (3, .int (nI i)), (2, .int o), (0, .ref aM), (1, .int x)]) hx hb d_M_night_75 hl (by decide) rfl (fun ls hl => ?_)
          refine lv_aload_n hx hb d_M_night_77 rfl (lv_at hl 3 rfl) ?_
          refine zget (ci := 11) (fs := [.ref m1, .int (nI n), .ref m2, .ref m3, .ref m4, .ref m5, .ref m6, .long sto, .int ni, .int ac, .int bl, .ref m7, .int (nI (((burnK (kk i) d x (so i, t)).2).2).2.1)]) E hK hP 0 rfl zC_M 4 (by decide) kw_594 (Or.inl rfl) rfl d_M_night_78 ?_
          refine lv_iload_n hx hb d_M_night_81 rfl (lv_at hl 1 rfl) ?_
          refine va_iald hx hb hK hP 4 3 rfl rfl (vp_in_nI hi (by decide)) d_M_night_82 ?_
          rw [nI_clamp (i31 hi)]
          refine lv_iload hx hb d_M_night_83 (lv_at hl 0 rfl) ?_
          refine lv_icmp_gt (tgt := 108) hx hb d_M_night_85 (by decide) (fun _ => ?_) (fun h9 => absurd (Int32.not_le.mp h4) h9)
          refine lv_aload_n hx hb d_M_night_108 rfl (lv_at hl 3 rfl) ?_
          refine zget (ci := 11) (fs := [.ref m1, .int (nI n), .ref m2, .ref m3, .ref m4, .ref m5, .ref m6, .long sto, .int ni, .int ac, .int bl, .ref m7, .int (nI (((burnK (kk i) d x (so i, t)).2).2).2.1)]) E hK hP 0 rfl zC_M 4 (by decide) kw_594 (Or.inl rfl) rfl d_M_night_109 ?_
          refine lv_iload_n hx hb d_M_night_112 rfl (lv_at hl 1 rfl) ?_
          refine lv_dup2_11 hx hb d_M_night_113 rfl rfl ?_
          refine va_iald hx hb hK hP 4 3 rfl rfl (vp_in_nI hi (by decide)) d_M_night_114 ?_
          rw [nI_clamp (i31 hi)]
          refine lv_iload hx hb d_M_night_115 (lv_at hl 0 rfl) ?_
          refine lv_isub hx hb d_M_night_117 ?_
          refine va_iast hx hb hK hP hD hS 4 3 rfl rfl (vp_in_nI hi (by decide)) d_M_night_118 (fun H locs hP hD hS => ?_)
          rw [nI_clamp (i31 hi)] at hP hD
          have hP : va_P (dC, dI) classes (wm g1 g2 g3 g4 g5 g6 g7 aM m1 m2 m3 m4 m5 m6 m7 d n (kdF kk) ht (upd tk i ((tk i) - 0)) (upd so i ((burnK (kk i) d x (so i, t)).2).1) lt sto ni ac bl (((burnK (kk i) d x (so i, t)).2).2)) H := hP
          have hD : va_D A (wm g1 g2 g3 g4 g5 g6 g7 aM m1 m2 m3 m4 m5 m6 m7 d n (kdF kk) ht (upd tk i ((tk i) - 0)) (upd so i ((burnK (kk i) d x (so i, t)).2).1) lt sto ni ac bl (((burnK (kk i) d x (so i, t)).2).2)) := hD
          refine lv_iinc (v := nI (i + 1)) (lv' := [(3, .int (nI (i + 1))), (4, .int 0), (2, .int o), (0, .ref aM), (1, .int x)]) hx hb d_M_night_119 hl (k := 1) rfl (nI_1 i) (by decide) rfl (fun ls hl => ?_)
          refine lv_goto (tgt := 39) hx hb d_M_night_122 (by decide) ?_
          refine ih (i + 1) _ _ _ _ _ ls H locs (by omega) (hS1.trans (by rw [if_neg h2, if_pos h3, if_neg h4])) hP hD hS (lv_sub hl [0, 2, 3, 4] rfl)
      · by_cases h4 : tk i ≤ (burnK (kk i) d x (so i, t)).1
        · refine lv_if_ge (tgt := 73) hx hb d_M_night_66 (by decide) (fun _ => ?_) (fun h9 => absurd (Int32.not_lt.mp h3) h9)
          refine lv_iload hx hb d_M_night_73 (lv_at hl 0 rfl) ?_
          refine lv_istore (lv' := [(4, .int ((burnK (kk i) d x (so i, t)).1)), (3, .int (nI i)), (2, .int o), (0, .ref aM), (1, .int x)]) hx hb d_M_night_75 hl (by decide) rfl (fun ls hl => ?_)
          refine lv_aload_n hx hb d_M_night_77 rfl (lv_at hl 3 rfl) ?_
          refine zget (ci := 11) (fs := [.ref m1, .int (nI n), .ref m2, .ref m3, .ref m4, .ref m5, .ref m6, .long sto, .int ni, .int ac, .int bl, .ref m7, .int (nI (((burnK (kk i) d x (so i, t)).2).2).2.1)]) E hK hP 0 rfl zC_M 4 (by decide) kw_594 (Or.inl rfl) rfl d_M_night_78 ?_
          refine lv_iload_n hx hb d_M_night_81 rfl (lv_at hl 1 rfl) ?_
          refine va_iald hx hb hK hP 4 3 rfl rfl (vp_in_nI hi (by decide)) d_M_night_82 ?_
          rw [nI_clamp (i31 hi)]
          refine lv_iload hx hb d_M_night_83 (lv_at hl 0 rfl) ?_
          refine lv_icmp_gt (tgt := 108) hx hb d_M_night_85 (by decide) (fun h9 => absurd h9 (Int32.not_lt.mpr h4)) (fun _ => ?_)
          refine lv_aload_n hx hb d_M_night_88 rfl (lv_at hl 3 rfl) ?_
          refine zget (ci := 11) (fs := [.ref m1, .int (nI n), .ref m2, .ref m3, .ref m4, .ref m5, .ref m6, .long sto, .int ni, .int ac, .int bl, .ref m7, .int (nI (((burnK (kk i) d x (so i, t)).2).2).2.1)]) E hK hP 0 rfl zC_M 4 (by decide) kw_594 (Or.inl rfl) rfl d_M_night_89 ?_
          refine lv_iload_n hx hb d_M_night_92 rfl (lv_at hl 1 rfl) ?_
          refine lv_iconst (v := 0) hx hb d_M_night_93 (by decide) ?_
          refine va_iast hx hb hK hP hD hS 4 3 rfl rfl (vp_in_nI hi (by decide)) d_M_night_94 (fun H locs hP hD hS => ?_)
          rw [nI_clamp (i31 hi)] at hP hD
          have hP : va_P (dC, dI) classes (wm g1 g2 g3 g4 g5 g6 g7 aM m1 m2 m3 m4 m5 m6 m7 d n (kdF kk) ht (upd tk i 0) (upd so i ((burnK (kk i) d x (so i, t)).2).1) lt sto ni ac bl (((burnK (kk i) d x (so i, t)).2).2)) H := hP
          have hD : va_D A (wm g1 g2 g3 g4 g5 g6 g7 aM m1 m2 m3 m4 m5 m6 m7 d n (kdF kk) ht (upd tk i 0) (upd so i ((burnK (kk i) d x (so i, t)).2).1) lt sto ni ac bl (((burnK (kk i) d x (so i, t)).2).2)) := hD
          refine lv_aload_n hx hb d_M_night_95 rfl (lv_at hl 3 rfl) ?_
          refine zget (ci := 11) (fs := [.ref m1, .int (nI n), .ref m2, .ref m3, .ref m4, .ref m5, .ref m6, .long sto, .int ni, .int ac, .int bl, .ref m7, .int (nI (((burnK (kk i) d x (so i, t)).2).2).2.1)]) E hK hP 0 rfl zC_M 6 (by decide) kw_596 (Or.inl rfl) rfl d_M_night_96 ?_
          refine lv_iload_n hx hb d_M_night_99 rfl (lv_at hl 1 rfl) ?_
          refine lv_iconst (v := 0) hx hb d_M_night_100 (by decide) ?_
          refine va_zast hx hb hK hP hD hS 6 5 rfl rfl (vp_in_nI hi (by decide)) d_M_night_101 (fun H locs hP hD hS => ?_)
          rw [nI_clamp (i31 hi)] at hP hD
          rw [show vp_nar .boolean 0 = 0 from rfl] at hP hD
          have hP : va_P (dC, dI) classes (wm g1 g2 g3 g4 g5 g6 g7 aM m1 m2 m3 m4 m5 m6 m7 d n (kdF kk) ht (upd tk i 0) (upd so i ((burnK (kk i) d x (so i, t)).2).1) (upd lt i 0) sto ni ac bl (((burnK (kk i) d x (so i, t)).2).2)) H := hP
          have hD : va_D A (wm g1 g2 g3 g4 g5 g6 g7 aM m1 m2 m3 m4 m5 m6 m7 d n (kdF kk) ht (upd tk i 0) (upd so i ((burnK (kk i) d x (so i, t)).2).1) (upd lt i 0) sto ni ac bl (((burnK (kk i) d x (so i, t)).2).2)) := hD
          refine lv_iinc (v := o + 1) (lv' := [(2, .int (o + 1)), (4, .int ((burnK (kk i) d x (so i, t)).1)), (3, .int (nI i)), (0, .ref aM), (1, .int x)]) hx hb d_M_night_102 hl (k := 2) rfl (rfl) (by decide) rfl (fun ls hl => ?_)
          refine lv_goto (tgt := 119) hx hb d_M_night_105 (by decide) ?_
          refine lv_iinc (v := nI (i + 1)) (lv' := [(3, .int (nI (i + 1))), (2, .int (o + 1)), (4, .int ((burnK (kk i) d x (so i, t)).1)), (0, .ref aM), (1, .int x)]) hx hb d_M_night_119 hl (k := 2) rfl (nI_1 i) (by decide) rfl (fun ls hl => ?_)
          refine lv_goto (tgt := 39) hx hb d_M_night_122 (by decide) ?_
          refine ih (i + 1) _ _ _ _ _ ls H locs (by omega) (hS1.trans (by rw [if_neg h2, if_neg h3, if_pos h4])) hP hD hS (lv_sub hl [0, 1, 3, 4] rfl)
        · refine lv_if_ge (tgt := 73) hx hb d_M_night_66 (by decide) (fun _ => ?_) (fun h9 => absurd (Int32.not_lt.mp h3) h9)
          refine lv_iload hx hb d_M_night_73 (lv_at hl 0 rfl) ?_
          refine lv_istore (lv' := [(4, .int ((burnK (kk i) d x (so i, t)).1)), (3, .int (nI i)), (2, .int o), (0, .ref aM), (1, .int x)]) hx hb d_M_night_75 hl (by decide) rfl (fun ls hl => ?_)
          refine lv_aload_n hx hb d_M_night_77 rfl (lv_at hl 3 rfl) ?_
          refine zget (ci := 11) (fs := [.ref m1, .int (nI n), .ref m2, .ref m3, .ref m4, .ref m5, .ref m6, .long sto, .int ni, .int ac, .int bl, .ref m7, .int (nI (((burnK (kk i) d x (so i, t)).2).2).2.1)]) E hK hP 0 rfl zC_M 4 (by decide) kw_594 (Or.inl rfl) rfl d_M_night_78 ?_
          refine lv_iload_n hx hb d_M_night_81 rfl (lv_at hl 1 rfl) ?_
          refine va_iald hx hb hK hP 4 3 rfl rfl (vp_in_nI hi (by decide)) d_M_night_82 ?_
          rw [nI_clamp (i31 hi)]
          refine lv_iload hx hb d_M_night_83 (lv_at hl 0 rfl) ?_
          refine lv_icmp_gt (tgt := 108) hx hb d_M_night_85 (by decide) (fun _ => ?_) (fun h9 => absurd (Int32.not_le.mp h4) h9)
          refine lv_aload_n hx hb d_M_night_108 rfl (lv_at hl 3 rfl) ?_
          refine zget (ci := 11) (fs := [.ref m1, .int (nI n), .ref m2, .ref m3, .ref m4, .ref m5, .ref m6, .long sto, .int ni, .int ac, .int bl, .ref m7, .int (nI (((burnK (kk i) d x (so i, t)).2).2).2.1)]) E hK hP 0 rfl zC_M 4 (by decide) kw_594 (Or.inl rfl) rfl d_M_night_109 ?_
          refine lv_iload_n hx hb d_M_night_112 rfl (lv_at hl 1 rfl) ?_
          refine lv_dup2_11 hx hb d_M_night_113 rfl rfl ?_
          refine va_iald hx hb hK hP 4 3 rfl rfl (vp_in_nI hi (by decide)) d_M_night_114 ?_
          rw [nI_clamp (i31 hi)]
          refine lv_iload hx hb d_M_night_115 (lv_at hl 0 rfl) ?_
          refine lv_isub hx hb d_M_night_117 ?_
          refine va_iast hx hb hK hP hD hS 4 3 rfl rfl (vp_in_nI hi (by decide)) d_M_night_118 (fun H locs hP hD hS => ?_)
          rw [nI_clamp (i31 hi)] at hP hD
          have hP : va_P (dC, dI) classes (wm g1 g2 g3 g4 g5 g6 g7 aM m1 m2 m3 m4 m5 m6 m7 d n (kdF kk) ht (upd tk i ((tk i) - ((burnK (kk i) d x (so i, t)).1))) (upd so i ((burnK (kk i) d x (so i, t)).2).1) lt sto ni ac bl (((burnK (kk i) d x (so i, t)).2).2)) H := hP
          have hD : va_D A (wm g1 g2 g3 g4 g5 g6 g7 aM m1 m2 m3 m4 m5 m6 m7 d n (kdF kk) ht (upd tk i ((tk i) - ((burnK (kk i) d x (so i, t)).1))) (upd so i ((burnK (kk i) d x (so i, t)).2).1) lt sto ni ac bl (((burnK (kk i) d x (so i, t)).2).2)) := hD
          refine lv_iinc (v := nI (i + 1)) (lv' := [(3, .int (nI (i + 1))), (4, .int ((burnK (kk i) d x (so i, t)).1)), (2, .int o), (0, .ref aM), (1, .int x)]) hx hb d_M_night_119 hl (k := 1) rfl (nI_1 i) (by decide) rfl (fun ls hl => ?_)
          refine lv_goto (tgt := 39) hx hb d_M_night_122 (by decide) ?_
          refine ih (i + 1) _ _ _ _ _ ls H locs (by omega) (hS1.trans (by rw [if_neg h2, if_neg h3, if_neg h4])) hP hD hS (lv_sub hl [0, 2, 3, 4] rfl)
set_option maxHeartbeats 1000000 in
set_option maxRecDepth 100000 in
theorem c_M_night (l : Launch) (dC : Nat → ClassId) (dI : Nat → Nat → Nat) (g1 g2 g3 g4 g5 g6 g7 : ClassId) (A : Nat → Prop) (aM m1 m2 m3 m4 m5 m6 m7 : Nat) (d : Nat → Int32) (n : Nat) (kk : Nat → Nat) (ht tk so lt : Nat → Int32) (sto : Int64) (ni ac bl : Int32) (t : zT) (hI : zInv (d, n, kk, ht, tk, so, lt, sto, ni, ac, bl, t)) (x : Int32) : zM l y_M_night b_M_night 5 (some (FieldType.int)) 6 133 [.ref aM, .int x] (dC, dI) (t7 g1 g2 g3 g4 g5 g6 g7) A (mW g1 g2 g3 g4 g5 g6 g7 aM m1 m2 m3 m4 m5 m6 m7 (d, n, kk, ht, tk, so, lt, sto, ni, ac, bl, t)) (mW g1 g2 g3 g4 g5 g6 g7 aM m1 m2 m3 m4 m5 m6 m7 (nightA (d, n, kk, ht, tk, so, lt, sto, ni, ac, bl, t) x).2) (some (.int (nightA (d, n, kk, ht, tk, so, lt, sto, ni, ac, bl, t) x).1)) := by
  obtain ⟨hn, hkk, hz⟩ : n ≤ 60 ∧ (∀ i, i < n → kk i < 9) ∧ ∀ i, n ≤ i → tk i = 0 ∧ so i = 0 ∧ lt i = 0 := hI
  by_cases h1 : 1 ≤ x ∧ x ≤ 14
  · cases h2 : anyL lt n
    · have e9 : nightA (d, n, kk, ht, tk, so, lt, sto, ni, ac, bl, t) x = (0, (d, n, kk, ht, tk, so, lt, sto, ni + 1, ac, bl, t)) := by show (if _ then _ else _) = _; rw [if_pos h1, if_neg (by rw [h2]; decide)]
      rw [e9]
      refine zM_of "CoastLampsModel" rfl (by decide) (Nat.le_of_ble_eq_true rfl) ?_
      intro p e s m below meth c ls E hP hK hD hS hl
      obtain ⟨hx, hb, hml, ho, hts, hr, hlk⟩ := id E
      have hl : lv_has ls 5 [(0, .ref aM), (1, .int x)] := hl
      refine lv_iload_n hx hb d_M_night_0 rfl (lv_at hl 1 rfl) ?_
      refine lv_iconst (v := 1) hx hb d_M_night_1 (by decide) ?_
      refine lv_bipush (v := 14) hx hb d_M_night_2 (by decide) ?_
      refine zcS (As := [.int x, .int 1, .int 14]) (rest := []) E cy_M_in kw_636 kw_635 rfl (c_M_in l dC dI (t7 g1 g2 g3 g4 g5 g6 g7) A (wm g1 g2 g3 g4 g5 g6 g7 aM m1 m2 m3 m4 m5 m6 m7 d n (kdF kk) ht tk so lt sto ni ac bl t) x 1 14) hK hP hD hS rfl hl.1 rfl (Nat.le_of_ble_eq_true rfl) ⟨Nat.le_of_ble_eq_true rfl, Nat.le_of_ble_eq_true rfl⟩ d_M_night_4 ⟨Nat.le_refl _, Nat.le_refl _⟩ (fun H locs hP hD hS => ?_)
      rw [show zb (decide (1 ≤ x ∧ x ≤ 14)) = 1 from by rw [decide_eq_true (h1)]; rfl]
      refine lv_if_ne (tgt := 12) hx hb d_M_night_7 (by decide) (fun _ => ?_) (fun h9 => absurd h9 (by decide))
      refine lv_aload_n hx hb d_M_night_12 rfl (lv_at hl 0 rfl) ?_
      refine lv_dup hx hb d_M_night_13 rfl ?_
      refine zget (ci := 11) (fs := [.ref m1, .int (nI n), .ref m2, .ref m3, .ref m4, .ref m5, .ref m6, .long sto, .int ni, .int ac, .int bl, .ref m7, .int (nI t.2.1)]) E hK hP 0 rfl zC_M 8 (by decide) kw_598 (Or.inl rfl) rfl d_M_night_14 ?_
      refine lv_iconst (v := 1) hx hb d_M_night_17 (by decide) ?_
      refine lv_iadd hx hb d_M_night_18 ?_
      refine zput (ci := 11) (fs := [.ref m1, .int (nI n), .ref m2, .ref m3, .ref m4, .ref m5, .ref m6, .long sto, .int ni, .int ac, .int bl, .ref m7, .int (nI t.2.1)]) (ty := .int) (v := .int (ni + 1)) (ws2 := wm g1 g2 g3 g4 g5 g6 g7 aM m1 m2 m3 m4 m5 m6 m7 d n (kdF kk) ht tk so lt sto (ni + 1) ac bl t) E hK hP hD hS 0 rfl zC_M t_M o_M n_M 8 (by decide) kw_598 (Or.inl rfl) rfl rfl rfl rfl (Nat.le_of_ble_eq_true rfl) d_M_night_19 (rfl) (fun H locs hP hD hS => ?_)
      refine lv_aload_n hx hb d_M_night_22 rfl (lv_at hl 0 rfl) ?_
      refine zcV (As := []) (rest := []) (ci := 11) E cy_M_isAnyLit kw_836 ks_45 kw_834 (c_M_isAnyLit l dC dI g1 g2 g3 g4 g5 g6 g7 A aM m1 m2 m3 m4 m5 m6 m7 d n (kdF kk) ht tk so lt sto (ni + 1) ac bl t hn) hK hP hD hS 0 rfl zC_M.1 rfl rfl hl.1 rfl (Nat.le_of_ble_eq_true rfl) ⟨Nat.le_of_ble_eq_true rfl, Nat.le_of_ble_eq_true rfl⟩ d_M_night_23 ⟨Nat.le_refl _, Nat.le_refl _⟩ (fun H locs hP hD hS => ?_)
      rw [h2, show zb false = 0 from rfl]
      refine lv_if_ne (tgt := 31) hx hb d_M_night_26 (by decide) (fun h9 => absurd (rfl) h9) (fun _ => ?_)
      refine lv_iconst (v := 0) hx hb d_M_night_29 (by decide) ?_
      exact zri E hK hP hD hS d_M_night_30
    · have e9 : nightA (d, n, kk, ht, tk, so, lt, sto, ni, ac, bl, t) x = ((nightF kk d x n (0, tk, so, lt, t0 t)).1, (d, n, kk, ht, (nightF kk d x n (0, tk, so, lt, t0 t)).2.1, (nightF kk d x n (0, tk, so, lt, t0 t)).2.2.1, (nightF kk d x n (0, tk, so, lt, t0 t)).2.2.2.1, sto, ni + 1, ac + 1, bl, (nightF kk d x n (0, tk, so, lt, t0 t)).2.2.2.2)) := by show (if _ then _ else _) = _; rw [if_pos h1, if_pos h2]
      rw [e9]
      refine zM_of "CoastLampsModel" rfl (by decide) (Nat.le_of_ble_eq_true rfl) ?_
      intro p e s m below meth c ls E hP hK hD hS hl
      obtain ⟨hx, hb, hml, ho, hts, hr, hlk⟩ := id E
      have hl : lv_has ls 5 [(0, .ref aM), (1, .int x)] := hl
      refine lv_iload_n hx hb d_M_night_0 rfl (lv_at hl 1 rfl) ?_
      refine lv_iconst (v := 1) hx hb d_M_night_1 (by decide) ?_
      refine lv_bipush (v := 14) hx hb d_M_night_2 (by decide) ?_
      refine zcS (As := [.int x, .int 1, .int 14]) (rest := []) E cy_M_in kw_636 kw_635 rfl (c_M_in l dC dI (t7 g1 g2 g3 g4 g5 g6 g7) A (wm g1 g2 g3 g4 g5 g6 g7 aM m1 m2 m3 m4 m5 m6 m7 d n (kdF kk) ht tk so lt sto ni ac bl t) x 1 14) hK hP hD hS rfl hl.1 rfl (Nat.le_of_ble_eq_true rfl) ⟨Nat.le_of_ble_eq_true rfl, Nat.le_of_ble_eq_true rfl⟩ d_M_night_4 ⟨Nat.le_refl _, Nat.le_refl _⟩ (fun H locs hP hD hS => ?_)
      rw [show zb (decide (1 ≤ x ∧ x ≤ 14)) = 1 from by rw [decide_eq_true (h1)]; rfl]
      refine lv_if_ne (tgt := 12) hx hb d_M_night_7 (by decide) (fun _ => ?_) (fun h9 => absurd h9 (by decide))
      refine lv_aload_n hx hb d_M_night_12 rfl (lv_at hl 0 rfl) ?_
      refine lv_dup hx hb d_M_night_13 rfl ?_
      refine zget (ci := 11) (fs := [.ref m1, .int (nI n), .ref m2, .ref m3, .ref m4, .ref m5, .ref m6, .long sto, .int ni, .int ac, .int bl, .ref m7, .int (nI t.2.1)]) E hK hP 0 rfl zC_M 8 (by decide) kw_598 (Or.inl rfl) rfl d_M_night_14 ?_
      refine lv_iconst (v := 1) hx hb d_M_night_17 (by decide) ?_
      refine lv_iadd hx hb d_M_night_18 ?_
      refine zput (ci := 11) (fs := [.ref m1, .int (nI n), .ref m2, .ref m3, .ref m4, .ref m5, .ref m6, .long sto, .int ni, .int ac, .int bl, .ref m7, .int (nI t.2.1)]) (ty := .int) (v := .int (ni + 1)) (ws2 := wm g1 g2 g3 g4 g5 g6 g7 aM m1 m2 m3 m4 m5 m6 m7 d n (kdF kk) ht tk so lt sto (ni + 1) ac bl t) E hK hP hD hS 0 rfl zC_M t_M o_M n_M 8 (by decide) kw_598 (Or.inl rfl) rfl rfl rfl rfl (Nat.le_of_ble_eq_true rfl) d_M_night_19 (rfl) (fun H locs hP hD hS => ?_)
      refine lv_aload_n hx hb d_M_night_22 rfl (lv_at hl 0 rfl) ?_
      refine zcV (As := []) (rest := []) (ci := 11) E cy_M_isAnyLit kw_836 ks_45 kw_834 (c_M_isAnyLit l dC dI g1 g2 g3 g4 g5 g6 g7 A aM m1 m2 m3 m4 m5 m6 m7 d n (kdF kk) ht tk so lt sto (ni + 1) ac bl t hn) hK hP hD hS 0 rfl zC_M.1 rfl rfl hl.1 rfl (Nat.le_of_ble_eq_true rfl) ⟨Nat.le_of_ble_eq_true rfl, Nat.le_of_ble_eq_true rfl⟩ d_M_night_23 ⟨Nat.le_refl _, Nat.le_refl _⟩ (fun H locs hP hD hS => ?_)
      rw [h2, show zb true = 1 from rfl]
      refine lv_if_ne (tgt := 31) hx hb d_M_night_26 (by decide) (fun _ => ?_) (fun h9 => absurd h9 (by decide))
      refine lv_aload_n hx hb d_M_night_31 rfl (lv_at hl 0 rfl) ?_
      refine zcV (As := []) (rest := []) (ci := 11) E cy_M_act kw_653 ks_5 kw_651 (c_M_act l dC dI g1 g2 g3 g4 g5 g6 g7 A aM m1 m2 m3 m4 m5 m6 m7 d n (kdF kk) ht tk so lt sto (ni + 1) ac bl t) hK hP hD hS 0 rfl zC_M.1 rfl rfl hl.1 rfl (Nat.le_of_ble_eq_true rfl) ⟨Nat.le_of_ble_eq_true rfl, Nat.le_of_ble_eq_true rfl⟩ d_M_night_32 ⟨Nat.le_refl _, Nat.le_refl _⟩ (fun H locs hP hD hS => ?_)
      have hP : va_P (dC, dI) classes (wm g1 g2 g3 g4 g5 g6 g7 aM m1 m2 m3 m4 m5 m6 m7 d n (kdF kk) ht tk so lt sto (ni + 1) (ac + 1) bl (t.1, ⟨0, by decide⟩)) H := hP
      have hD : va_D A (wm g1 g2 g3 g4 g5 g6 g7 aM m1 m2 m3 m4 m5 m6 m7 d n (kdF kk) ht tk so lt sto (ni + 1) (ac + 1) bl (t.1, ⟨0, by decide⟩)) := hD
      have hP : va_P (dC, dI) classes (wm g1 g2 g3 g4 g5 g6 g7 aM m1 m2 m3 m4 m5 m6 m7 d n (kdF kk) ht tk so lt sto (ni + 1) (ac + 1) bl (t0 t)) H := hP
      have hD : va_D A (wm g1 g2 g3 g4 g5 g6 g7 aM m1 m2 m3 m4 m5 m6 m7 d n (kdF kk) ht tk so lt sto (ni + 1) (ac + 1) bl (t0 t)) := hD
      refine lv_iconst (v := 0) hx hb d_M_night_35 (by decide) ?_
      refine lv_istore_n (lv' := [(2, .int 0), (0, .ref aM), (1, .int x)]) hx hb d_M_night_36 rfl hl (by decide) rfl (fun ls hl => ?_)
      refine lv_iconst (v := 0) hx hb d_M_night_37 (by decide) ?_
      refine lv_istore_n (lv' := [(3, .int 0), (2, .int 0), (0, .ref aM), (1, .int x)]) hx hb d_M_night_38 rfl hl (by decide) rfl (fun ls hl => ?_)
      exact night_M dC dI g1 g2 g3 g4 g5 g6 g7 A aM m1 m2 m3 m4 m5 m6 m7 d n kk ht sto (ni + 1) (ac + 1) bl x tk so lt t hn hkk E hK n 0 0 tk so lt (t0 t) ls _ _ (by omega) rfl hP hD hS (lv_sub hl [0, 1, 2, 3] rfl)
  · have e9 : nightA (d, n, kk, ht, tk, so, lt, sto, ni, ac, bl, t) x = (-1, (d, n, kk, ht, tk, so, lt, sto, ni, ac, bl, t)) := by show (if _ then _ else _) = _; rw [if_neg h1]
    rw [e9]
    refine zM_of "CoastLampsModel" rfl (by decide) (Nat.le_of_ble_eq_true rfl) ?_
    intro p e s m below meth c ls E hP hK hD hS hl
    obtain ⟨hx, hb, hml, ho, hts, hr, hlk⟩ := id E
    have hl : lv_has ls 5 [(0, .ref aM), (1, .int x)] := hl
    refine lv_iload_n hx hb d_M_night_0 rfl (lv_at hl 1 rfl) ?_
    refine lv_iconst (v := 1) hx hb d_M_night_1 (by decide) ?_
    refine lv_bipush (v := 14) hx hb d_M_night_2 (by decide) ?_
    refine zcS (As := [.int x, .int 1, .int 14]) (rest := []) E cy_M_in kw_636 kw_635 rfl (c_M_in l dC dI (t7 g1 g2 g3 g4 g5 g6 g7) A (wm g1 g2 g3 g4 g5 g6 g7 aM m1 m2 m3 m4 m5 m6 m7 d n (kdF kk) ht tk so lt sto ni ac bl t) x 1 14) hK hP hD hS rfl hl.1 rfl (Nat.le_of_ble_eq_true rfl) ⟨Nat.le_of_ble_eq_true rfl, Nat.le_of_ble_eq_true rfl⟩ d_M_night_4 ⟨Nat.le_refl _, Nat.le_refl _⟩ (fun H locs hP hD hS => ?_)
    rw [show zb (decide (1 ≤ x ∧ x ≤ 14)) = 0 from by rw [decide_eq_false (h1)]; rfl]
    refine lv_if_ne (tgt := 12) hx hb d_M_night_7 (by decide) (fun h9 => absurd (rfl) h9) (fun _ => ?_)
    refine lv_iconst (v := (-1)) hx hb d_M_night_10 (by decide) ?_
    exact zri E hK hP hD hS d_M_night_11
theorem seen_some (kk : Nat → Nat) (d ht lt : Nat → Int32) (x : Int32) (s : Option Nat × Int32 × (Nat → Int32) × zT) : ∀ n, anyL lt n = true → ∃ j, (seenF kk d ht lt x n s).1 = some j := by
  intro n
  induction n with
  | zero => intro h; exact absurd h (by simp [anyL])
  | succ n ih =>
    intro h
    rcases hF : seenF kk d ht lt x n s with ⟨b, f, so, t⟩
    have e := seenF_s hF
    rw [e]
    by_cases h2 : lt n = 0
    · rw [if_pos h2]
      have h3 : anyL lt n = true := by simpa [anyL, h2] using h
      obtain ⟨j, hj⟩ := ih h3
      rw [hF] at hj
      exact ⟨j, hj⟩
    · rw [if_neg h2]
      by_cases h4 : b = none ∨ f < (reachK (kk n) d (ht n) x (so n, t)).1
      · rw [if_pos h4]; exact ⟨n, rfl⟩
      · rw [if_neg h4]
        cases b with
        | none => exact absurd (Or.inl rfl) h4
        | some j => exact ⟨j, rfl⟩
theorem nI_m1 {j : Nat} (h : j < 60) : ¬ nI j = -1 := fun q => by
  have a := nI_pos' (i31 h)
  rw [q] at a
  exact absurd a (by decide)
set_option maxHeartbeats 1000000 in
set_option maxRecDepth 100000 in
theorem seen_M {p : Program} {l : Launch} {e : Env} {s : State} {m : MethodId} {below : List Frame} {meth : Method} {c : Code} (dC : Nat → ClassId) (dI : Nat → Nat → Nat) (g1 g2 g3 g4 g5 g6 g7 : ClassId) (A : Nat → Prop) (aM m1 m2 m3 m4 m5 m6 m7 : Nat) (d : Nat → Int32) (n : Nat) (kk : Nat → Nat) (ht tk lt : Nat → Int32) (sto : Int64) (ni ac bl : Int32) (x : Int32) (so0 : Nat → Int32) (tt : zT) (hn : n ≤ 60) (hkk : ∀ i, i < n → kk i < 9) (E : zE p s m [Value.ref aM, Value.int x].toArray meth c "CoastLampsModel" b_M_seen 6 (some FieldType.int)) (hK : va_K (dC, dI) classes (t7 g1 g2 g3 g4 g5 g6 g7) s) :
    ∀ (q i : Nat) (b : Option Nat) (f : Int32) (so : Nat → Int32) (t : zT) (ls : Array Slot) (H : Heap) (locs : List Loc), i + q = n → (∀ j, b = some j → j < i) → seenF kk d ht lt x i (none, 0, so0, t0 tt) = (b, f, so, t) → va_P (dC, dI) classes (wm g1 g2 g3 g4 g5 g6 g7 aM m1 m2 m3 m4 m5 m6 m7 d n (kdF kk) ht tk so lt sto ni ac bl t) H → va_D A (wm g1 g2 g3 g4 g5 g6 g7 aM m1 m2 m3 m4 m5 m6 m7 d n (kdF kk) ht tk so lt sto ni ac bl t) → va_S A s.heap H locs → lv_has ls 6 [(4, .int (nI i)), (3, .int f), (2, .int (oI (-1) b)), (0, .ref aM), (1, .int x)] → W p l e (zR 6 133) s m [Value.ref aM, Value.int x].toArray below meth c H locs 0 0 (MQ below (zQ (dC, dI) (t7 g1 g2 g3 g4 g5 g6 g7) A (wm g1 g2 g3 g4 g5 g6 g7 aM m1 m2 m3 m4 m5 m6 m7 d n (kdF kk) ht tk (seenF kk d ht lt x n (none, 0, so0, t0 tt)).2.2.1 lt sto ni ac bl (seenF kk d ht lt x n (none, 0, so0, t0 tt)).2.2.2) (some (.int (oI (-1) (seenF kk d ht lt x n (none, 0, so0, t0 tt)).1)))) [Value.ref aM, Value.int x].toArray s 0 0 A) (F0 m 33 ls []) := by
  obtain ⟨hx, hb, hml, ho, hts, hr, hlk⟩ := id E
  intro q
  induction q with
  | zero =>
    intro i b f so t ls H locs hiq hbj hF hP hD hS hl
    obtain rfl : i = n := by omega
    rw [hF]
    dsimp only
    refine lv_iload hx hb d_M_seen_33 (lv_at hl 0 rfl) ?_
    refine lv_aload_n hx hb d_M_seen_35 rfl (lv_at hl 3 rfl) ?_
    refine zget (ci := 11) (fs := [.ref m1, .int (nI i), .ref m2, .ref m3, .ref m4, .ref m5, .ref m6, .long sto, .int ni, .int ac, .int bl, .ref m7, .int (nI t.2.1)]) E hK hP 0 rfl zC_M 1 (by decide) kw_591 (Or.inl rfl) rfl d_M_seen_36 ?_
    refine lv_icmp_ge (tgt := 84) hx hb d_M_seen_39 (by decide) (fun _ => ?_) (fun h9 => absurd (Int32.le_refl _) h9)
    refine lv_iload_n hx hb d_M_seen_84 rfl (lv_at hl 2 rfl) ?_
    exact zri E hK hP hD hS d_M_seen_85
  | succ q ih =>
    intro i b f so t ls H locs hiq hbj hF hP hD hS hl
    have hi0 : i < n := by omega
    have hi : i < 60 := by omega
    have hkd : kdF kk i = nI (kk i + 1) := rfl
    have hS1 := seenF_s hF
    refine lv_iload hx hb d_M_seen_33 (lv_at hl 0 rfl) ?_
    refine lv_aload_n hx hb d_M_seen_35 rfl (lv_at hl 3 rfl) ?_
    refine zget (ci := 11) (fs := [.ref m1, .int (nI n), .ref m2, .ref m3, .ref m4, .ref m5, .ref m6, .long sto, .int ni, .int ac, .int bl, .ref m7, .int (nI t.2.1)]) E hK hP 0 rfl zC_M 1 (by decide) kw_591 (Or.inl rfl) rfl d_M_seen_36 ?_
    refine lv_icmp_ge (tgt := 84) hx hb d_M_seen_39 (by decide) (fun h9 => absurd h9 (nI_ge hi0 (by omega))) (fun _ => ?_)
    refine lv_aload_n hx hb d_M_seen_42 rfl (lv_at hl 3 rfl) ?_
    refine zget (ci := 11) (fs := [.ref m1, .int (nI n), .ref m2, .ref m3, .ref m4, .ref m5, .ref m6, .long sto, .int ni, .int ac, .int bl, .ref m7, .int (nI t.2.1)]) E hK hP 0 rfl zC_M 6 (by decide) kw_596 (Or.inl rfl) rfl d_M_seen_43 ?_
    refine lv_iload hx hb d_M_seen_46 (lv_at hl 0 rfl) ?_
    refine va_zald hx hb hK hP 6 5 rfl rfl (vp_in_nI hi (by decide)) d_M_seen_48 ?_
    rw [nI_clamp (i31 hi)]
    by_cases h2 : lt i = 0
    · refine lv_if_eq (tgt := 78) hx hb d_M_seen_49 (by decide) (fun _ => ?_) (fun h9 => absurd (h2) h9)
      refine lv_iinc (v := nI (i + 1)) (lv' := [(4, .int (nI (i + 1))), (3, .int f), (2, .int (oI (-1) b)), (0, .ref aM), (1, .int x)]) hx hb d_M_seen_78 hl (k := 0) rfl (nI_1 i) (by decide) rfl (fun ls hl => ?_)
      refine lv_goto (tgt := 33) hx hb d_M_seen_81 (by decide) ?_
      refine ih (i + 1) b f _ _ ls H locs (by omega) (fun j hj => Nat.lt_succ_of_lt (hbj j hj)) (hS1.trans (by rw [if_pos h2])) hP hD hS (lv_sub hl [0, 1, 2, 3, 4] rfl)
    · refine lv_if_eq (tgt := 78) hx hb d_M_seen_49 (by decide) (fun h9 => absurd h9 (h2)) (fun _ => ?_)
      refine lv_aload_n hx hb d_M_seen_52 rfl (lv_at hl 3 rfl) ?_
      refine lv_iload hx hb d_M_seen_53 (lv_at hl 0 rfl) ?_
      refine lv_iload_n hx hb d_M_seen_55 rfl (lv_at hl 4 rfl) ?_
      have hP : va_P (dC, dI) classes (wm g1 g2 g3 g4 g5 g6 g7 aM m1 m2 m3 m4 m5 m6 m7 d n (kdF kk) ht tk (upd so i ((so i, t) : zS).1) lt sto ni ac bl ((so i, t) : zS).2) H := by rw [show upd so i (((so i, t) : zS)).1 = so from upd_me so i]; exact hP
      have hD : va_D A (wm g1 g2 g3 g4 g5 g6 g7 aM m1 m2 m3 m4 m5 m6 m7 d n (kdF kk) ht tk (upd so i ((so i, t) : zS).1) lt sto ni ac bl ((so i, t) : zS).2) := by rw [show upd so i (((so i, t) : zS)).1 = so from upd_me so i]; exact hD
      refine zcV (As := [.int (nI i), .int x]) (rest := []) (ci := 11) E cy_M_reach kw_694 ks_15 kw_692 (c_M_reach l dC dI g1 g2 g3 g4 g5 g6 g7 A aM m1 m2 m3 m4 m5 m6 m7 d n (kdF kk) ht tk so lt sto ni ac bl i hi (so i, t) (kk i) (hkk i hi0) hkd x) hK hP hD hS 0 rfl zC_M.1 rfl rfl hl.1 rfl (Nat.le_of_ble_eq_true rfl) ⟨Nat.le_of_ble_eq_true rfl, Nat.le_of_ble_eq_true rfl⟩ d_M_seen_56 ⟨Nat.le_refl _, Nat.le_refl _⟩ (fun H locs hP hD hS => ?_)
      have hP : va_P (dC, dI) classes (wm g1 g2 g3 g4 g5 g6 g7 aM m1 m2 m3 m4 m5 m6 m7 d n (kdF kk) ht tk (upd so i ((reachK (kk i) d (ht i) x (so i, t)).2 : zS).1) lt sto ni ac bl ((reachK (kk i) d (ht i) x (so i, t)).2 : zS).2) H := hP
      have hD : va_D A (wm g1 g2 g3 g4 g5 g6 g7 aM m1 m2 m3 m4 m5 m6 m7 d n (kdF kk) ht tk (upd so i ((reachK (kk i) d (ht i) x (so i, t)).2 : zS).1) lt sto ni ac bl ((reachK (kk i) d (ht i) x (so i, t)).2 : zS).2) := hD
      refine lv_istore (lv' := [(5, .int ((reachK (kk i) d (ht i) x (so i, t)).1)), (4, .int (nI i)), (3, .int f), (2, .int (oI (-1) b)), (0, .ref aM), (1, .int x)]) hx hb d_M_seen_59 hl (by decide) rfl (fun ls hl => ?_)
      cases b with
      | none =>
        refine lv_iload_n hx hb d_M_seen_61 rfl (lv_at hl 3 rfl) ?_
        refine lv_iconst (v := (-1)) hx hb d_M_seen_62 (by decide) ?_
        refine lv_icmp_eq (tgt := 72) hx hb d_M_seen_63 (by decide) (fun _ => ?_) (fun h9 => absurd (rfl) h9)
        refine lv_iload hx hb d_M_seen_72 (lv_at hl 1 rfl) ?_
        refine lv_istore_n (lv' := [(2, .int (nI i)), (5, .int ((reachK (kk i) d (ht i) x (so i, t)).1)), (4, .int (nI i)), (3, .int f), (0, .ref aM), (1, .int x)]) hx hb d_M_seen_74 rfl hl (by decide) rfl (fun ls hl => ?_)
        refine lv_iload hx hb d_M_seen_75 (lv_at hl 1 rfl) ?_
        refine lv_istore_n (lv' := [(3, .int ((reachK (kk i) d (ht i) x (so i, t)).1)), (2, .int (nI i)), (5, .int ((reachK (kk i) d (ht i) x (so i, t)).1)), (4, .int (nI i)), (0, .ref aM), (1, .int x)]) hx hb d_M_seen_77 rfl hl (by decide) rfl (fun ls hl => ?_)
        refine lv_iinc (v := nI (i + 1)) (lv' := [(4, .int (nI (i + 1))), (3, .int ((reachK (kk i) d (ht i) x (so i, t)).1)), (2, .int (nI i)), (5, .int ((reachK (kk i) d (ht i) x (so i, t)).1)), (0, .ref aM), (1, .int x)]) hx hb d_M_seen_78 hl (k := 3) rfl (nI_1 i) (by decide) rfl (fun ls hl => ?_)
        refine lv_goto (tgt := 33) hx hb d_M_seen_81 (by decide) ?_
        refine ih (i + 1) (some i) (reachK (kk i) d (ht i) x (so i, t)).1 _ _ ls H locs (by omega) (fun j hj => by cases hj; exact Nat.lt_succ_self _) (hS1.trans (by rw [if_neg h2, if_pos (Or.inl rfl)])) hP hD hS (lv_sub hl [0, 1, 2, 4, 5] rfl)
      | some j0 =>
        have hj0 : j0 < i := hbj j0 rfl
        by_cases h3 : f < (reachK (kk i) d (ht i) x (so i, t)).1
        · refine lv_iload_n hx hb d_M_seen_61 rfl (lv_at hl 3 rfl) ?_
          refine lv_iconst (v := (-1)) hx hb d_M_seen_62 (by decide) ?_
          refine lv_icmp_eq (tgt := 72) hx hb d_M_seen_63 (by decide) (fun h9 => absurd h9 (nI_m1 (by omega))) (fun _ => ?_)
          refine lv_iload hx hb d_M_seen_66 (lv_at hl 0 rfl) ?_
          refine lv_iload_n hx hb d_M_seen_68 rfl (lv_at hl 2 rfl) ?_
          refine lv_icmp_le (tgt := 78) hx hb d_M_seen_69 (by decide) (fun h9 => absurd h9 (Int32.not_le.mpr h3)) (fun _ => ?_)
          refine lv_iload hx hb d_M_seen_72 (lv_at hl 1 rfl) ?_
          refine lv_istore_n (lv' := [(2, .int (nI i)), (5, .int ((reachK (kk i) d (ht i) x (so i, t)).1)), (4, .int (nI i)), (3, .int f), (0, .ref aM), (1, .int x)]) hx hb d_M_seen_74 rfl hl (by decide) rfl (fun ls hl => ?_)
          refine lv_iload hx hb d_M_seen_75 (lv_at hl 1 rfl) ?_
          refine lv_istore_n (lv' := [(3, .int ((reachK (kk i) d (ht i) x (so i, t)).1)), (2, .int (nI i)), (5, .int ((reachK (kk i) d (ht i) x (so i, t)).1)), (4, .int (nI i)), (0, .ref aM), (1, .int x)]) hx hb d_M_seen_77 rfl hl (by decide) rfl (fun ls hl => ?_)
          refine lv_iinc (v := nI (i + 1)) (lv' := [(4, .int (nI (i + 1))), (3, .int ((reachK (kk i) d (ht i) x (so i, t)).1)), (2, .int (nI i)), (5, .int ((reachK (kk i) d (ht i) x (so i, t)).1)), (0, .ref aM), (1, .int x)]) hx hb d_M_seen_78 hl (k := 3) rfl (nI_1 i) (by decide) rfl (fun ls hl => ?_)
          refine lv_goto (tgt := 33) hx hb d_M_seen_81 (by decide) ?_
          refine ih (i + 1) (some i) (reachK (kk i) d (ht i) x (so i, t)).1 _ _ ls H locs (by omega) (fun j hj => by cases hj; exact Nat.lt_succ_self _) (hS1.trans (by rw [if_neg h2, if_pos (Or.inr h3)])) hP hD hS (lv_sub hl [0, 1, 2, 4, 5] rfl)
        · refine lv_iload_n hx hb d_M_seen_61 rfl (lv_at hl 3 rfl) ?_
          refine lv_iconst (v := (-1)) hx hb d_M_seen_62 (by decide) ?_
          refine lv_icmp_eq (tgt := 72) hx hb d_M_seen_63 (by decide) (fun h9 => absurd h9 (nI_m1 (by omega))) (fun _ => ?_)
          refine lv_iload hx hb d_M_seen_66 (lv_at hl 0 rfl) ?_
          refine lv_iload_n hx hb d_M_seen_68 rfl (lv_at hl 2 rfl) ?_
          refine lv_icmp_le (tgt := 78) hx hb d_M_seen_69 (by decide) (fun _ => ?_) (fun h9 => absurd (Int32.not_lt.mp h3) h9)
          refine lv_iinc (v := nI (i + 1)) (lv' := [(4, .int (nI (i + 1))), (5, .int ((reachK (kk i) d (ht i) x (so i, t)).1)), (3, .int f), (2, .int (nI j0)), (0, .ref aM), (1, .int x)]) hx hb d_M_seen_78 hl (k := 1) rfl (nI_1 i) (by decide) rfl (fun ls hl => ?_)
          refine lv_goto (tgt := 33) hx hb d_M_seen_81 (by decide) ?_
          refine ih (i + 1) (some j0) f _ _ ls H locs (by omega) (fun j hj => Nat.lt_succ_of_lt (hbj j hj)) (hS1.trans (by rw [if_neg h2, if_neg (fun h => h.elim (fun z => by cases z) h3)])) hP hD hS (lv_sub hl [0, 2, 3, 4, 5] rfl)
set_option maxHeartbeats 1000000 in
set_option maxRecDepth 100000 in
theorem c_M_seen (l : Launch) (dC : Nat → ClassId) (dI : Nat → Nat → Nat) (g1 g2 g3 g4 g5 g6 g7 : ClassId) (A : Nat → Prop) (aM m1 m2 m3 m4 m5 m6 m7 : Nat) (d : Nat → Int32) (n : Nat) (kk : Nat → Nat) (ht tk so lt : Nat → Int32) (sto : Int64) (ni ac bl : Int32) (t : zT) (hI : zInv (d, n, kk, ht, tk, so, lt, sto, ni, ac, bl, t)) (x : Int32) : zM l y_M_seen b_M_seen 6 (some (FieldType.int)) 6 133 [.ref aM, .int x] (dC, dI) (t7 g1 g2 g3 g4 g5 g6 g7) A (mW g1 g2 g3 g4 g5 g6 g7 aM m1 m2 m3 m4 m5 m6 m7 (d, n, kk, ht, tk, so, lt, sto, ni, ac, bl, t)) (mW g1 g2 g3 g4 g5 g6 g7 aM m1 m2 m3 m4 m5 m6 m7 (seenA (d, n, kk, ht, tk, so, lt, sto, ni, ac, bl, t) x).2) (some (.int (seenA (d, n, kk, ht, tk, so, lt, sto, ni, ac, bl, t) x).1)) := by
  obtain ⟨hn, hkk, hz⟩ : n ≤ 60 ∧ (∀ i, i < n → kk i < 9) ∧ ∀ i, n ≤ i → tk i = 0 ∧ so i = 0 ∧ lt i = 0 := hI
  by_cases h1 : 0 ≤ x ∧ x ≤ 9
  · cases h2 : anyL lt n
    · have e9 : seenA (d, n, kk, ht, tk, so, lt, sto, ni, ac, bl, t) x = (-3, (d, n, kk, ht, tk, so, lt, sto, ni, ac, bl, t)) := by show (if _ then _ else _) = _; rw [if_pos h1, if_neg (by rw [h2]; decide)]
      rw [e9]
      refine zM_of "CoastLampsModel" rfl (by decide) (Nat.le_of_ble_eq_true rfl) ?_
      intro p e s m below meth c ls E hP hK hD hS hl
      obtain ⟨hx, hb, hml, ho, hts, hr, hlk⟩ := id E
      have hl : lv_has ls 6 [(0, .ref aM), (1, .int x)] := hl
      refine lv_iload_n hx hb d_M_seen_0 rfl (lv_at hl 1 rfl) ?_
      refine lv_iconst (v := 0) hx hb d_M_seen_1 (by decide) ?_
      refine lv_bipush (v := 9) hx hb d_M_seen_2 (by decide) ?_
      refine zcS (As := [.int x, .int 0, .int 9]) (rest := []) E cy_M_in kw_636 kw_635 rfl (c_M_in l dC dI (t7 g1 g2 g3 g4 g5 g6 g7) A (wm g1 g2 g3 g4 g5 g6 g7 aM m1 m2 m3 m4 m5 m6 m7 d n (kdF kk) ht tk so lt sto ni ac bl t) x 0 9) hK hP hD hS rfl hl.1 rfl (Nat.le_of_ble_eq_true rfl) ⟨Nat.le_of_ble_eq_true rfl, Nat.le_of_ble_eq_true rfl⟩ d_M_seen_4 ⟨Nat.le_refl _, Nat.le_refl _⟩ (fun H locs hP hD hS => ?_)
      rw [show zb (decide (0 ≤ x ∧ x ≤ 9)) = 1 from by rw [decide_eq_true (h1)]; rfl]
      refine lv_if_ne (tgt := 12) hx hb d_M_seen_7 (by decide) (fun _ => ?_) (fun h9 => absurd h9 (by decide))
      refine lv_aload_n hx hb d_M_seen_12 rfl (lv_at hl 0 rfl) ?_
      refine zcV (As := []) (rest := []) (ci := 11) E cy_M_isAnyLit kw_836 ks_45 kw_834 (c_M_isAnyLit l dC dI g1 g2 g3 g4 g5 g6 g7 A aM m1 m2 m3 m4 m5 m6 m7 d n (kdF kk) ht tk so lt sto ni ac bl t hn) hK hP hD hS 0 rfl zC_M.1 rfl rfl hl.1 rfl (Nat.le_of_ble_eq_true rfl) ⟨Nat.le_of_ble_eq_true rfl, Nat.le_of_ble_eq_true rfl⟩ d_M_seen_13 ⟨Nat.le_refl _, Nat.le_refl _⟩ (fun H locs hP hD hS => ?_)
      rw [h2, show zb false = 0 from rfl]
      refine lv_if_ne (tgt := 22) hx hb d_M_seen_16 (by decide) (fun h9 => absurd (rfl) h9) (fun _ => ?_)
      refine lv_bipush (v := (-3)) hx hb d_M_seen_19 (by decide) ?_
      exact zri E hK hP hD hS d_M_seen_21
    · have e9 : seenA (d, n, kk, ht, tk, so, lt, sto, ni, ac, bl, t) x = (oI 0 (seenF kk d ht lt x n (none, 0, so, t0 t)).1, (d, n, kk, ht, tk, (seenF kk d ht lt x n (none, 0, so, t0 t)).2.2.1, lt, sto, ni, ac + 1, bl, (seenF kk d ht lt x n (none, 0, so, t0 t)).2.2.2)) := by show (if _ then _ else _) = _; rw [if_pos h1, if_pos h2]
      rw [e9]
      obtain ⟨j9, hj9⟩ := seen_some kk d ht lt x (none, 0, so, t0 t) n h2
      rw [show oI 0 (seenF kk d ht lt x n (none, 0, so, t0 t)).1 = oI (-1) (seenF kk d ht lt x n (none, 0, so, t0 t)).1 from by rw [hj9]; rfl]
      refine zM_of "CoastLampsModel" rfl (by decide) (Nat.le_of_ble_eq_true rfl) ?_
      intro p e s m below meth c ls E hP hK hD hS hl
      obtain ⟨hx, hb, hml, ho, hts, hr, hlk⟩ := id E
      have hl : lv_has ls 6 [(0, .ref aM), (1, .int x)] := hl
      refine lv_iload_n hx hb d_M_seen_0 rfl (lv_at hl 1 rfl) ?_
      refine lv_iconst (v := 0) hx hb d_M_seen_1 (by decide) ?_
      refine lv_bipush (v := 9) hx hb d_M_seen_2 (by decide) ?_
      refine zcS (As := [.int x, .int 0, .int 9]) (rest := []) E cy_M_in kw_636 kw_635 rfl (c_M_in l dC dI (t7 g1 g2 g3 g4 g5 g6 g7) A (wm g1 g2 g3 g4 g5 g6 g7 aM m1 m2 m3 m4 m5 m6 m7 d n (kdF kk) ht tk so lt sto ni ac bl t) x 0 9) hK hP hD hS rfl hl.1 rfl (Nat.le_of_ble_eq_true rfl) ⟨Nat.le_of_ble_eq_true rfl, Nat.le_of_ble_eq_true rfl⟩ d_M_seen_4 ⟨Nat.le_refl _, Nat.le_refl _⟩ (fun H locs hP hD hS => ?_)
      rw [show zb (decide (0 ≤ x ∧ x ≤ 9)) = 1 from by rw [decide_eq_true (h1)]; rfl]
      refine lv_if_ne (tgt := 12) hx hb d_M_seen_7 (by decide) (fun _ => ?_) (fun h9 => absurd h9 (by decide))
      refine lv_aload_n hx hb d_M_seen_12 rfl (lv_at hl 0 rfl) ?_
      refine zcV (As := []) (rest := []) (ci := 11) E cy_M_isAnyLit kw_836 ks_45 kw_834 (c_M_isAnyLit l dC dI g1 g2 g3 g4 g5 g6 g7 A aM m1 m2 m3 m4 m5 m6 m7 d n (kdF kk) ht tk so lt sto ni ac bl t hn) hK hP hD hS 0 rfl zC_M.1 rfl rfl hl.1 rfl (Nat.le_of_ble_eq_true rfl) ⟨Nat.le_of_ble_eq_true rfl, Nat.le_of_ble_eq_true rfl⟩ d_M_seen_13 ⟨Nat.le_refl _, Nat.le_refl _⟩ (fun H locs hP hD hS => ?_)
      rw [h2, show zb true = 1 from rfl]
      refine lv_if_ne (tgt := 22) hx hb d_M_seen_16 (by decide) (fun _ => ?_) (fun h9 => absurd h9 (by decide))
      refine lv_aload_n hx hb d_M_seen_22 rfl (lv_at hl 0 rfl) ?_
      refine zcV (As := []) (rest := []) (ci := 11) E cy_M_act kw_653 ks_5 kw_651 (c_M_act l dC dI g1 g2 g3 g4 g5 g6 g7 A aM m1 m2 m3 m4 m5 m6 m7 d n (kdF kk) ht tk so lt sto ni ac bl t) hK hP hD hS 0 rfl zC_M.1 rfl rfl hl.1 rfl (Nat.le_of_ble_eq_true rfl) ⟨Nat.le_of_ble_eq_true rfl, Nat.le_of_ble_eq_true rfl⟩ d_M_seen_23 ⟨Nat.le_refl _, Nat.le_refl _⟩ (fun H locs hP hD hS => ?_)
      have hP : va_P (dC, dI) classes (wm g1 g2 g3 g4 g5 g6 g7 aM m1 m2 m3 m4 m5 m6 m7 d n (kdF kk) ht tk so lt sto ni (ac + 1) bl (t.1, ⟨0, by decide⟩)) H := hP
      have hD : va_D A (wm g1 g2 g3 g4 g5 g6 g7 aM m1 m2 m3 m4 m5 m6 m7 d n (kdF kk) ht tk so lt sto ni (ac + 1) bl (t.1, ⟨0, by decide⟩)) := hD
      have hP : va_P (dC, dI) classes (wm g1 g2 g3 g4 g5 g6 g7 aM m1 m2 m3 m4 m5 m6 m7 d n (kdF kk) ht tk so lt sto ni (ac + 1) bl (t0 t)) H := hP
      have hD : va_D A (wm g1 g2 g3 g4 g5 g6 g7 aM m1 m2 m3 m4 m5 m6 m7 d n (kdF kk) ht tk so lt sto ni (ac + 1) bl (t0 t)) := hD
      refine lv_iconst (v := (-1)) hx hb d_M_seen_26 (by decide) ?_
      refine lv_istore_n (lv' := [(2, .int (-1)), (0, .ref aM), (1, .int x)]) hx hb d_M_seen_27 rfl hl (by decide) rfl (fun ls hl => ?_)
      refine lv_iconst (v := 0) hx hb d_M_seen_28 (by decide) ?_
      refine lv_istore_n (lv' := [(3, .int 0), (2, .int (-1)), (0, .ref aM), (1, .int x)]) hx hb d_M_seen_29 rfl hl (by decide) rfl (fun ls hl => ?_)
      refine lv_iconst (v := 0) hx hb d_M_seen_30 (by decide) ?_
      refine lv_istore (lv' := [(4, .int 0), (3, .int 0), (2, .int (-1)), (0, .ref aM), (1, .int x)]) hx hb d_M_seen_31 hl (by decide) rfl (fun ls hl => ?_)
      exact seen_M dC dI g1 g2 g3 g4 g5 g6 g7 A aM m1 m2 m3 m4 m5 m6 m7 d n kk ht tk lt sto ni (ac + 1) bl x so t hn hkk E hK n 0 none 0 so (t0 t) ls _ _ (by omega) (fun j h => by cases h) rfl hP hD hS (lv_sub hl [0, 1, 2, 3, 4] rfl)
  · have e9 : seenA (d, n, kk, ht, tk, so, lt, sto, ni, ac, bl, t) x = (-1, (d, n, kk, ht, tk, so, lt, sto, ni, ac, bl, t)) := by show (if _ then _ else _) = _; rw [if_neg h1]
    rw [e9]
    refine zM_of "CoastLampsModel" rfl (by decide) (Nat.le_of_ble_eq_true rfl) ?_
    intro p e s m below meth c ls E hP hK hD hS hl
    obtain ⟨hx, hb, hml, ho, hts, hr, hlk⟩ := id E
    have hl : lv_has ls 6 [(0, .ref aM), (1, .int x)] := hl
    refine lv_iload_n hx hb d_M_seen_0 rfl (lv_at hl 1 rfl) ?_
    refine lv_iconst (v := 0) hx hb d_M_seen_1 (by decide) ?_
    refine lv_bipush (v := 9) hx hb d_M_seen_2 (by decide) ?_
    refine zcS (As := [.int x, .int 0, .int 9]) (rest := []) E cy_M_in kw_636 kw_635 rfl (c_M_in l dC dI (t7 g1 g2 g3 g4 g5 g6 g7) A (wm g1 g2 g3 g4 g5 g6 g7 aM m1 m2 m3 m4 m5 m6 m7 d n (kdF kk) ht tk so lt sto ni ac bl t) x 0 9) hK hP hD hS rfl hl.1 rfl (Nat.le_of_ble_eq_true rfl) ⟨Nat.le_of_ble_eq_true rfl, Nat.le_of_ble_eq_true rfl⟩ d_M_seen_4 ⟨Nat.le_refl _, Nat.le_refl _⟩ (fun H locs hP hD hS => ?_)
    rw [show zb (decide (0 ≤ x ∧ x ≤ 9)) = 0 from by rw [decide_eq_false (h1)]; rfl]
    refine lv_if_ne (tgt := 12) hx hb d_M_seen_7 (by decide) (fun h9 => absurd (rfl) h9) (fun _ => ?_)
    refine lv_iconst (v := (-1)) hx hb d_M_seen_10 (by decide) ?_
    exact zri E hK hP hD hS d_M_seen_11
