set_option maxHeartbeats 1000000 in
set_option maxRecDepth 100000 in
theorem c_M_burn (l : Launch) (dC : Nat → ClassId) (dI : Nat → Nat → Nat) (g1 g2 g3 g4 g5 g6 g7 : ClassId) (A : Nat → Prop) (aM m1 m2 m3 m4 m5 m6 m7 : Nat) (d : Nat → Int32) (n : Nat) (kd ht tk so lt : Nat → Int32) (sto : Int64) (ni ac bl : Int32) (i : Nat) (hi : i < 60) (σ : zS) (k : Nat) (hk : k < 9) (hkd : kd i = nI (k + 1)) (x : Int32) : zM l y_M_burn b_M_burn 3 (some (FieldType.int)) 5 111 [.ref aM, .int (nI i), .int x] (dC, dI) (t7 g1 g2 g3 g4 g5 g6 g7) A (wm g1 g2 g3 g4 g5 g6 g7 aM m1 m2 m3 m4 m5 m6 m7 d n kd ht tk (upd so i σ.1) lt sto ni ac bl σ.2) (wm g1 g2 g3 g4 g5 g6 g7 aM m1 m2 m3 m4 m5 m6 m7 d n kd ht tk (upd so i (burnK k d x σ).2.1) lt sto ni ac bl (burnK k d x σ).2.2) (some (.int (burnK k d x σ).1)) := by
  rcases (show k = 0 ∨ k = 1 ∨ k = 2 ∨ k = 3 ∨ k = 4 ∨ k = 5 ∨ k = 6 ∨ k = 7 ∨ k = 8 by omega) with rfl | rfl | rfl | rfl | rfl | rfl | rfl | rfl | rfl
  · refine zM_of "CoastLampsModel" rfl (by decide) (Nat.le_of_ble_eq_true rfl) ?_
    intro p e s m below meth c ls E hP hK hD hS hl
    obtain ⟨hx, hb, hml, ho, hts, hr, hlk⟩ := id E
    have hl : lv_has ls 3 [(0, .ref aM), (1, .int (nI i)), (2, .int x)] := hl
    refine lv_aload_n hx hb d_M_burn_0 rfl (lv_at hl 0 rfl) ?_
    refine zget (ci := 11) (fs := [.ref m1, .int (nI n), .ref m2, .ref m3, .ref m4, .ref m5, .ref m6, .long sto, .int ni, .int ac, .int bl, .ref m7, .int (nI σ.2.2.1)]) E hK hP 0 rfl zC_M 2 (by decide) kw_592 (Or.inl rfl) rfl d_M_burn_1 ?_
    refine lv_iload_n hx hb d_M_burn_4 rfl (lv_at hl 1 rfl) ?_
    refine va_iald hx hb hK hP 2 1 rfl rfl (vp_in_nI hi (by decide)) d_M_burn_5 ?_
    rw [nI_clamp (i31 hi)]
    rw [hkd]
    refine lv_tableIn (off := 50) (tgt := 56) hx hb d_M_burn_6 (by decide) (by decide) (by decide) (by decide) ?_
    refine lv_aload_n hx hb d_M_burn_56 rfl (lv_at hl 0 rfl) ?_
    refine lv_iload_n hx hb d_M_burn_57 rfl (lv_at hl 1 rfl) ?_
    refine lv_iload_n hx hb d_M_burn_58 rfl (lv_at hl 2 rfl) ?_
    refine zcV (As := [.int (nI i), .int x]) (rest := []) (ci := 11) E cy_M_burnOil kw_666 ks_8 kw_664 (c_M_burnOil l dC dI g1 g2 g3 g4 g5 g6 g7 A aM m1 m2 m3 m4 m5 m6 m7 d n kd ht tk so lt sto ni ac bl i hi σ x) hK hP hD hS 0 rfl zC_M.1 rfl rfl hl.1 rfl (Nat.le_of_ble_eq_true rfl) ⟨Nat.le_of_ble_eq_true rfl, Nat.le_of_ble_eq_true rfl⟩ d_M_burn_59 ⟨Nat.le_refl _, Nat.le_refl _⟩ (fun H locs hP hD hS => ?_)
    have hP : va_P (dC, dI) classes (wm g1 g2 g3 g4 g5 g6 g7 aM m1 m2 m3 m4 m5 m6 m7 d n kd ht tk (upd so i ((bOil d x σ).2).1) lt sto ni ac bl ((bOil d x σ).2).2) H := hP
    have hD : va_D A (wm g1 g2 g3 g4 g5 g6 g7 aM m1 m2 m3 m4 m5 m6 m7 d n kd ht tk (upd so i ((bOil d x σ).2).1) lt sto ni ac bl ((bOil d x σ).2).2) := hD
    exact zri E hK hP hD hS d_M_burn_62
  · refine zM_of "CoastLampsModel" rfl (by decide) (Nat.le_of_ble_eq_true rfl) ?_
    intro p e s m below meth c ls E hP hK hD hS hl
    obtain ⟨hx, hb, hml, ho, hts, hr, hlk⟩ := id E
    have hl : lv_has ls 3 [(0, .ref aM), (1, .int (nI i)), (2, .int x)] := hl
    refine lv_aload_n hx hb d_M_burn_0 rfl (lv_at hl 0 rfl) ?_
    refine zget (ci := 11) (fs := [.ref m1, .int (nI n), .ref m2, .ref m3, .ref m4, .ref m5, .ref m6, .long sto, .int ni, .int ac, .int bl, .ref m7, .int (nI σ.2.2.1)]) E hK hP 0 rfl zC_M 2 (by decide) kw_592 (Or.inl rfl) rfl d_M_burn_1 ?_
    refine lv_iload_n hx hb d_M_burn_4 rfl (lv_at hl 1 rfl) ?_
    refine va_iald hx hb hK hP 2 1 rfl rfl (vp_in_nI hi (by decide)) d_M_burn_5 ?_
    rw [nI_clamp (i31 hi)]
    rw [hkd]
    refine lv_tableIn (off := 50) (tgt := 56) hx hb d_M_burn_6 (by decide) (by decide) (by decide) (by decide) ?_
    refine lv_aload_n hx hb d_M_burn_56 rfl (lv_at hl 0 rfl) ?_
    refine lv_iload_n hx hb d_M_burn_57 rfl (lv_at hl 1 rfl) ?_
    refine lv_iload_n hx hb d_M_burn_58 rfl (lv_at hl 2 rfl) ?_
    refine zcV (As := [.int (nI i), .int x]) (rest := []) (ci := 11) E cy_M_burnOil kw_666 ks_8 kw_664 (c_M_burnOil l dC dI g1 g2 g3 g4 g5 g6 g7 A aM m1 m2 m3 m4 m5 m6 m7 d n kd ht tk so lt sto ni ac bl i hi σ x) hK hP hD hS 0 rfl zC_M.1 rfl rfl hl.1 rfl (Nat.le_of_ble_eq_true rfl) ⟨Nat.le_of_ble_eq_true rfl, Nat.le_of_ble_eq_true rfl⟩ d_M_burn_59 ⟨Nat.le_refl _, Nat.le_refl _⟩ (fun H locs hP hD hS => ?_)
    have hP : va_P (dC, dI) classes (wm g1 g2 g3 g4 g5 g6 g7 aM m1 m2 m3 m4 m5 m6 m7 d n kd ht tk (upd so i ((bOil d x σ).2).1) lt sto ni ac bl ((bOil d x σ).2).2) H := hP
    have hD : va_D A (wm g1 g2 g3 g4 g5 g6 g7 aM m1 m2 m3 m4 m5 m6 m7 d n kd ht tk (upd so i ((bOil d x σ).2).1) lt sto ni ac bl ((bOil d x σ).2).2) := hD
    exact zri E hK hP hD hS d_M_burn_62
  · refine zM_of "CoastLampsModel" rfl (by decide) (Nat.le_of_ble_eq_true rfl) ?_
    intro p e s m below meth c ls E hP hK hD hS hl
    obtain ⟨hx, hb, hml, ho, hts, hr, hlk⟩ := id E
    have hl : lv_has ls 3 [(0, .ref aM), (1, .int (nI i)), (2, .int x)] := hl
    refine lv_aload_n hx hb d_M_burn_0 rfl (lv_at hl 0 rfl) ?_
    refine zget (ci := 11) (fs := [.ref m1, .int (nI n), .ref m2, .ref m3, .ref m4, .ref m5, .ref m6, .long sto, .int ni, .int ac, .int bl, .ref m7, .int (nI σ.2.2.1)]) E hK hP 0 rfl zC_M 2 (by decide) kw_592 (Or.inl rfl) rfl d_M_burn_1 ?_
    refine lv_iload_n hx hb d_M_burn_4 rfl (lv_at hl 1 rfl) ?_
    refine va_iald hx hb hK hP 2 1 rfl rfl (vp_in_nI hi (by decide)) d_M_burn_5 ?_
    rw [nI_clamp (i31 hi)]
    rw [hkd]
    refine lv_tableIn (off := 57) (tgt := 63) hx hb d_M_burn_6 (by decide) (by decide) (by decide) (by decide) ?_
    refine lv_aload_n hx hb d_M_burn_63 rfl (lv_at hl 0 rfl) ?_
    refine lv_iload_n hx hb d_M_burn_64 rfl (lv_at hl 1 rfl) ?_
    refine lv_iload_n hx hb d_M_burn_65 rfl (lv_at hl 2 rfl) ?_
    refine zcV (As := [.int (nI i), .int x]) (rest := []) (ci := 11) E cy_M_burnTwin kw_678 ks_11 kw_676 (c_M_burnTwin l dC dI g1 g2 g3 g4 g5 g6 g7 A aM m1 m2 m3 m4 m5 m6 m7 d n kd ht tk so lt sto ni ac bl i hi σ x) hK hP hD hS 0 rfl zC_M.1 rfl rfl hl.1 rfl (Nat.le_of_ble_eq_true rfl) ⟨Nat.le_of_ble_eq_true rfl, Nat.le_of_ble_eq_true rfl⟩ d_M_burn_66 ⟨Nat.le_refl _, Nat.le_refl _⟩ (fun H locs hP hD hS => ?_)
    have hP : va_P (dC, dI) classes (wm g1 g2 g3 g4 g5 g6 g7 aM m1 m2 m3 m4 m5 m6 m7 d n kd ht tk (upd so i ((bTwin d x σ).2).1) lt sto ni ac bl ((bTwin d x σ).2).2) H := hP
    have hD : va_D A (wm g1 g2 g3 g4 g5 g6 g7 aM m1 m2 m3 m4 m5 m6 m7 d n kd ht tk (upd so i ((bTwin d x σ).2).1) lt sto ni ac bl ((bTwin d x σ).2).2) := hD
    exact zri E hK hP hD hS d_M_burn_69
  · refine zM_of "CoastLampsModel" rfl (by decide) (Nat.le_of_ble_eq_true rfl) ?_
    intro p e s m below meth c ls E hP hK hD hS hl
    obtain ⟨hx, hb, hml, ho, hts, hr, hlk⟩ := id E
    have hl : lv_has ls 3 [(0, .ref aM), (1, .int (nI i)), (2, .int x)] := hl
    refine lv_aload_n hx hb d_M_burn_0 rfl (lv_at hl 0 rfl) ?_
    refine zget (ci := 11) (fs := [.ref m1, .int (nI n), .ref m2, .ref m3, .ref m4, .ref m5, .ref m6, .long sto, .int ni, .int ac, .int bl, .ref m7, .int (nI σ.2.2.1)]) E hK hP 0 rfl zC_M 2 (by decide) kw_592 (Or.inl rfl) rfl d_M_burn_1 ?_
    refine lv_iload_n hx hb d_M_burn_4 rfl (lv_at hl 1 rfl) ?_
    refine va_iald hx hb hK hP 2 1 rfl rfl (vp_in_nI hi (by decide)) d_M_burn_5 ?_
    rw [nI_clamp (i31 hi)]
    rw [hkd]
    refine lv_tableIn (off := 57) (tgt := 63) hx hb d_M_burn_6 (by decide) (by decide) (by decide) (by decide) ?_
    refine lv_aload_n hx hb d_M_burn_63 rfl (lv_at hl 0 rfl) ?_
    refine lv_iload_n hx hb d_M_burn_64 rfl (lv_at hl 1 rfl) ?_
    refine lv_iload_n hx hb d_M_burn_65 rfl (lv_at hl 2 rfl) ?_
    refine zcV (As := [.int (nI i), .int x]) (rest := []) (ci := 11) E cy_M_burnTwin kw_678 ks_11 kw_676 (c_M_burnTwin l dC dI g1 g2 g3 g4 g5 g6 g7 A aM m1 m2 m3 m4 m5 m6 m7 d n kd ht tk so lt sto ni ac bl i hi σ x) hK hP hD hS 0 rfl zC_M.1 rfl rfl hl.1 rfl (Nat.le_of_ble_eq_true rfl) ⟨Nat.le_of_ble_eq_true rfl, Nat.le_of_ble_eq_true rfl⟩ d_M_burn_66 ⟨Nat.le_refl _, Nat.le_refl _⟩ (fun H locs hP hD hS => ?_)
    have hP : va_P (dC, dI) classes (wm g1 g2 g3 g4 g5 g6 g7 aM m1 m2 m3 m4 m5 m6 m7 d n kd ht tk (upd so i ((bTwin d x σ).2).1) lt sto ni ac bl ((bTwin d x σ).2).2) H := hP
    have hD : va_D A (wm g1 g2 g3 g4 g5 g6 g7 aM m1 m2 m3 m4 m5 m6 m7 d n kd ht tk (upd so i ((bTwin d x σ).2).1) lt sto ni ac bl ((bTwin d x σ).2).2) := hD
    exact zri E hK hP hD hS d_M_burn_69
  · refine zM_of "CoastLampsModel" rfl (by decide) (Nat.le_of_ble_eq_true rfl) ?_
    intro p e s m below meth c ls E hP hK hD hS hl
    obtain ⟨hx, hb, hml, ho, hts, hr, hlk⟩ := id E
    have hl : lv_has ls 3 [(0, .ref aM), (1, .int (nI i)), (2, .int x)] := hl
    refine lv_aload_n hx hb d_M_burn_0 rfl (lv_at hl 0 rfl) ?_
    refine zget (ci := 11) (fs := [.ref m1, .int (nI n), .ref m2, .ref m3, .ref m4, .ref m5, .ref m6, .long sto, .int ni, .int ac, .int bl, .ref m7, .int (nI σ.2.2.1)]) E hK hP 0 rfl zC_M 2 (by decide) kw_592 (Or.inl rfl) rfl d_M_burn_1 ?_
    refine lv_iload_n hx hb d_M_burn_4 rfl (lv_at hl 1 rfl) ?_
    refine va_iald hx hb hK hP 2 1 rfl rfl (vp_in_nI hi (by decide)) d_M_burn_5 ?_
    rw [nI_clamp (i31 hi)]
    rw [hkd]
    refine lv_tableIn (off := 64) (tgt := 70) hx hb d_M_burn_6 (by decide) (by decide) (by decide) (by decide) ?_
    refine lv_aload_n hx hb d_M_burn_70 rfl (lv_at hl 0 rfl) ?_
    refine lv_iload_n hx hb d_M_burn_71 rfl (lv_at hl 1 rfl) ?_
    refine lv_iload_n hx hb d_M_burn_72 rfl (lv_at hl 2 rfl) ?_
    refine zcV (As := [.int (nI i), .int x]) (rest := []) (ci := 11) E cy_M_burnSwing kw_682 ks_12 kw_680 (c_M_burnSwing l dC dI g1 g2 g3 g4 g5 g6 g7 A aM m1 m2 m3 m4 m5 m6 m7 d n kd ht tk so lt sto ni ac bl i hi σ x) hK hP hD hS 0 rfl zC_M.1 rfl rfl hl.1 rfl (Nat.le_of_ble_eq_true rfl) ⟨Nat.le_of_ble_eq_true rfl, Nat.le_of_ble_eq_true rfl⟩ d_M_burn_73 ⟨Nat.le_refl _, Nat.le_refl _⟩ (fun H locs hP hD hS => ?_)
    have hP : va_P (dC, dI) classes (wm g1 g2 g3 g4 g5 g6 g7 aM m1 m2 m3 m4 m5 m6 m7 d n kd ht tk (upd so i ((bSwing d x σ).2).1) lt sto ni ac bl ((bSwing d x σ).2).2) H := hP
    have hD : va_D A (wm g1 g2 g3 g4 g5 g6 g7 aM m1 m2 m3 m4 m5 m6 m7 d n kd ht tk (upd so i ((bSwing d x σ).2).1) lt sto ni ac bl ((bSwing d x σ).2).2) := hD
    exact zri E hK hP hD hS d_M_burn_76
  · refine zM_of "CoastLampsModel" rfl (by decide) (Nat.le_of_ble_eq_true rfl) ?_
    intro p e s m below meth c ls E hP hK hD hS hl
    obtain ⟨hx, hb, hml, ho, hts, hr, hlk⟩ := id E
    have hl : lv_has ls 3 [(0, .ref aM), (1, .int (nI i)), (2, .int x)] := hl
    refine lv_aload_n hx hb d_M_burn_0 rfl (lv_at hl 0 rfl) ?_
    refine zget (ci := 11) (fs := [.ref m1, .int (nI n), .ref m2, .ref m3, .ref m4, .ref m5, .ref m6, .long sto, .int ni, .int ac, .int bl, .ref m7, .int (nI σ.2.2.1)]) E hK hP 0 rfl zC_M 2 (by decide) kw_592 (Or.inl rfl) rfl d_M_burn_1 ?_
    refine lv_iload_n hx hb d_M_burn_4 rfl (lv_at hl 1 rfl) ?_
    refine va_iald hx hb hK hP 2 1 rfl rfl (vp_in_nI hi (by decide)) d_M_burn_5 ?_
    rw [nI_clamp (i31 hi)]
    rw [hkd]
    refine lv_tableIn (off := 71) (tgt := 77) hx hb d_M_burn_6 (by decide) (by decide) (by decide) (by decide) ?_
    refine lv_aload_n hx hb d_M_burn_77 rfl (lv_at hl 0 rfl) ?_
    refine lv_iload_n hx hb d_M_burn_78 rfl (lv_at hl 1 rfl) ?_
    refine lv_iload_n hx hb d_M_burn_79 rfl (lv_at hl 2 rfl) ?_
    refine zcV (As := [.int (nI i), .int x]) (rest := []) (ci := 11) E cy_M_burnLamp kw_674 ks_10 kw_672 (c_M_burnLamp l dC dI g1 g2 g3 g4 g5 g6 g7 A aM m1 m2 m3 m4 m5 m6 m7 d n kd ht tk so lt sto ni ac bl i hi σ x) hK hP hD hS 0 rfl zC_M.1 rfl rfl hl.1 rfl (Nat.le_of_ble_eq_true rfl) ⟨Nat.le_of_ble_eq_true rfl, Nat.le_of_ble_eq_true rfl⟩ d_M_burn_80 ⟨Nat.le_refl _, Nat.le_refl _⟩ (fun H locs hP hD hS => ?_)
    have hP : va_P (dC, dI) classes (wm g1 g2 g3 g4 g5 g6 g7 aM m1 m2 m3 m4 m5 m6 m7 d n kd ht tk (upd so i ((bLamp d x σ).2).1) lt sto ni ac bl ((bLamp d x σ).2).2) H := hP
    have hD : va_D A (wm g1 g2 g3 g4 g5 g6 g7 aM m1 m2 m3 m4 m5 m6 m7 d n kd ht tk (upd so i ((bLamp d x σ).2).1) lt sto ni ac bl ((bLamp d x σ).2).2) := hD
    exact zri E hK hP hD hS d_M_burn_83
  · refine zM_of "CoastLampsModel" rfl (by decide) (Nat.le_of_ble_eq_true rfl) ?_
    intro p e s m below meth c ls E hP hK hD hS hl
    obtain ⟨hx, hb, hml, ho, hts, hr, hlk⟩ := id E
    have hl : lv_has ls 3 [(0, .ref aM), (1, .int (nI i)), (2, .int x)] := hl
    refine lv_aload_n hx hb d_M_burn_0 rfl (lv_at hl 0 rfl) ?_
    refine zget (ci := 11) (fs := [.ref m1, .int (nI n), .ref m2, .ref m3, .ref m4, .ref m5, .ref m6, .long sto, .int ni, .int ac, .int bl, .ref m7, .int (nI σ.2.2.1)]) E hK hP 0 rfl zC_M 2 (by decide) kw_592 (Or.inl rfl) rfl d_M_burn_1 ?_
    refine lv_iload_n hx hb d_M_burn_4 rfl (lv_at hl 1 rfl) ?_
    refine va_iald hx hb hK hP 2 1 rfl rfl (vp_in_nI hi (by decide)) d_M_burn_5 ?_
    rw [nI_clamp (i31 hi)]
    rw [hkd]
    refine lv_tableIn (off := 85) (tgt := 91) hx hb d_M_burn_6 (by decide) (by decide) (by decide) (by decide) ?_
    refine lv_aload_n hx hb d_M_burn_91 rfl (lv_at hl 0 rfl) ?_
    refine lv_iload_n hx hb d_M_burn_92 rfl (lv_at hl 1 rfl) ?_
    refine lv_iload_n hx hb d_M_burn_93 rfl (lv_at hl 2 rfl) ?_
    refine zcV (As := [.int (nI i), .int x]) (rest := []) (ci := 11) E cy_M_burnFlare kw_690 ks_14 kw_688 (c_M_burnFlare l dC dI g1 g2 g3 g4 g5 g6 g7 A aM m1 m2 m3 m4 m5 m6 m7 d n kd ht tk so lt sto ni ac bl i hi σ x) hK hP hD hS 0 rfl zC_M.1 rfl rfl hl.1 rfl (Nat.le_of_ble_eq_true rfl) ⟨Nat.le_of_ble_eq_true rfl, Nat.le_of_ble_eq_true rfl⟩ d_M_burn_94 ⟨Nat.le_refl _, Nat.le_refl _⟩ (fun H locs hP hD hS => ?_)
    have hP : va_P (dC, dI) classes (wm g1 g2 g3 g4 g5 g6 g7 aM m1 m2 m3 m4 m5 m6 m7 d n kd ht tk (upd so i ((bFlare d x σ).2).1) lt sto ni ac bl ((bFlare d x σ).2).2) H := hP
    have hD : va_D A (wm g1 g2 g3 g4 g5 g6 g7 aM m1 m2 m3 m4 m5 m6 m7 d n kd ht tk (upd so i ((bFlare d x σ).2).1) lt sto ni ac bl ((bFlare d x σ).2).2) := hD
    exact zri E hK hP hD hS d_M_burn_97
  · refine zM_of "CoastLampsModel" rfl (by decide) (Nat.le_of_ble_eq_true rfl) ?_
    intro p e s m below meth c ls E hP hK hD hS hl
    obtain ⟨hx, hb, hml, ho, hts, hr, hlk⟩ := id E
    have hl : lv_has ls 3 [(0, .ref aM), (1, .int (nI i)), (2, .int x)] := hl
    refine lv_aload_n hx hb d_M_burn_0 rfl (lv_at hl 0 rfl) ?_
    refine zget (ci := 11) (fs := [.ref m1, .int (nI n), .ref m2, .ref m3, .ref m4, .ref m5, .ref m6, .long sto, .int ni, .int ac, .int bl, .ref m7, .int (nI σ.2.2.1)]) E hK hP 0 rfl zC_M 2 (by decide) kw_592 (Or.inl rfl) rfl d_M_burn_1 ?_
    refine lv_iload_n hx hb d_M_burn_4 rfl (lv_at hl 1 rfl) ?_
    refine va_iald hx hb hK hP 2 1 rfl rfl (vp_in_nI hi (by decide)) d_M_burn_5 ?_
    rw [nI_clamp (i31 hi)]
    rw [hkd]
    refine lv_tableIn (off := 85) (tgt := 91) hx hb d_M_burn_6 (by decide) (by decide) (by decide) (by decide) ?_
    refine lv_aload_n hx hb d_M_burn_91 rfl (lv_at hl 0 rfl) ?_
    refine lv_iload_n hx hb d_M_burn_92 rfl (lv_at hl 1 rfl) ?_
    refine lv_iload_n hx hb d_M_burn_93 rfl (lv_at hl 2 rfl) ?_
    refine zcV (As := [.int (nI i), .int x]) (rest := []) (ci := 11) E cy_M_burnFlare kw_690 ks_14 kw_688 (c_M_burnFlare l dC dI g1 g2 g3 g4 g5 g6 g7 A aM m1 m2 m3 m4 m5 m6 m7 d n kd ht tk so lt sto ni ac bl i hi σ x) hK hP hD hS 0 rfl zC_M.1 rfl rfl hl.1 rfl (Nat.le_of_ble_eq_true rfl) ⟨Nat.le_of_ble_eq_true rfl, Nat.le_of_ble_eq_true rfl⟩ d_M_burn_94 ⟨Nat.le_refl _, Nat.le_refl _⟩ (fun H locs hP hD hS => ?_)
    have hP : va_P (dC, dI) classes (wm g1 g2 g3 g4 g5 g6 g7 aM m1 m2 m3 m4 m5 m6 m7 d n kd ht tk (upd so i ((bFlare d x σ).2).1) lt sto ni ac bl ((bFlare d x σ).2).2) H := hP
    have hD : va_D A (wm g1 g2 g3 g4 g5 g6 g7 aM m1 m2 m3 m4 m5 m6 m7 d n kd ht tk (upd so i ((bFlare d x σ).2).1) lt sto ni ac bl ((bFlare d x σ).2).2) := hD
    exact zri E hK hP hD hS d_M_burn_97
  · refine zM_of "CoastLampsModel" rfl (by decide) (Nat.le_of_ble_eq_true rfl) ?_
    intro p e s m below meth c ls E hP hK hD hS hl
    obtain ⟨hx, hb, hml, ho, hts, hr, hlk⟩ := id E
    have hl : lv_has ls 3 [(0, .ref aM), (1, .int (nI i)), (2, .int x)] := hl
    refine lv_aload_n hx hb d_M_burn_0 rfl (lv_at hl 0 rfl) ?_
    refine zget (ci := 11) (fs := [.ref m1, .int (nI n), .ref m2, .ref m3, .ref m4, .ref m5, .ref m6, .long sto, .int ni, .int ac, .int bl, .ref m7, .int (nI σ.2.2.1)]) E hK hP 0 rfl zC_M 2 (by decide) kw_592 (Or.inl rfl) rfl d_M_burn_1 ?_
    refine lv_iload_n hx hb d_M_burn_4 rfl (lv_at hl 1 rfl) ?_
    refine va_iald hx hb hK hP 2 1 rfl rfl (vp_in_nI hi (by decide)) d_M_burn_5 ?_
    rw [nI_clamp (i31 hi)]
    rw [hkd]
    refine lv_tableIn (off := 78) (tgt := 84) hx hb d_M_burn_6 (by decide) (by decide) (by decide) (by decide) ?_
    refine lv_aload_n hx hb d_M_burn_84 rfl (lv_at hl 0 rfl) ?_
    refine lv_iload_n hx hb d_M_burn_85 rfl (lv_at hl 1 rfl) ?_
    refine lv_iload_n hx hb d_M_burn_86 rfl (lv_at hl 2 rfl) ?_
    refine zcV (As := [.int (nI i), .int x]) (rest := []) (ci := 11) E cy_M_burnOuter kw_686 ks_13 kw_684 (c_M_burnOuter l dC dI g1 g2 g3 g4 g5 g6 g7 A aM m1 m2 m3 m4 m5 m6 m7 d n kd ht tk so lt sto ni ac bl i hi σ x) hK hP hD hS 0 rfl zC_M.1 rfl rfl hl.1 rfl (Nat.le_of_ble_eq_true rfl) ⟨Nat.le_of_ble_eq_true rfl, Nat.le_of_ble_eq_true rfl⟩ d_M_burn_87 ⟨Nat.le_refl _, Nat.le_refl _⟩ (fun H locs hP hD hS => ?_)
    have hP : va_P (dC, dI) classes (wm g1 g2 g3 g4 g5 g6 g7 aM m1 m2 m3 m4 m5 m6 m7 d n kd ht tk (upd so i ((bOuter d x σ).2).1) lt sto ni ac bl ((bOuter d x σ).2).2) H := hP
    have hD : va_D A (wm g1 g2 g3 g4 g5 g6 g7 aM m1 m2 m3 m4 m5 m6 m7 d n kd ht tk (upd so i ((bOuter d x σ).2).1) lt sto ni ac bl ((bOuter d x σ).2).2) := hD
    exact zri E hK hP hD hS d_M_burn_90
set_option maxHeartbeats 1000000 in
set_option maxRecDepth 100000 in
theorem c_M_reach (l : Launch) (dC : Nat → ClassId) (dI : Nat → Nat → Nat) (g1 g2 g3 g4 g5 g6 g7 : ClassId) (A : Nat → Prop) (aM m1 m2 m3 m4 m5 m6 m7 : Nat) (d : Nat → Int32) (n : Nat) (kd ht tk so lt : Nat → Int32) (sto : Int64) (ni ac bl : Int32) (i : Nat) (hi : i < 60) (σ : zS) (k : Nat) (hk : k < 9) (hkd : kd i = nI (k + 1)) (x : Int32) : zM l y_M_reach b_M_reach 3 (some (FieldType.int)) 5 111 [.ref aM, .int (nI i), .int x] (dC, dI) (t7 g1 g2 g3 g4 g5 g6 g7) A (wm g1 g2 g3 g4 g5 g6 g7 aM m1 m2 m3 m4 m5 m6 m7 d n kd ht tk (upd so i σ.1) lt sto ni ac bl σ.2) (wm g1 g2 g3 g4 g5 g6 g7 aM m1 m2 m3 m4 m5 m6 m7 d n kd ht tk (upd so i (reachK k d (ht i) x σ).2.1) lt sto ni ac bl (reachK k d (ht i) x σ).2.2) (some (.int (reachK k d (ht i) x σ).1)) := by
  rcases (show k = 0 ∨ k = 1 ∨ k = 2 ∨ k = 3 ∨ k = 4 ∨ k = 5 ∨ k = 6 ∨ k = 7 ∨ k = 8 by omega) with rfl | rfl | rfl | rfl | rfl | rfl | rfl | rfl | rfl
  · refine zM_of "CoastLampsModel" rfl (by decide) (Nat.le_of_ble_eq_true rfl) ?_
    intro p e s m below meth c ls E hP hK hD hS hl
    obtain ⟨hx, hb, hml, ho, hts, hr, hlk⟩ := id E
    have hl : lv_has ls 3 [(0, .ref aM), (1, .int (nI i)), (2, .int x)] := hl
    refine lv_aload_n hx hb d_M_reach_0 rfl (lv_at hl 0 rfl) ?_
    refine zget (ci := 11) (fs := [.ref m1, .int (nI n), .ref m2, .ref m3, .ref m4, .ref m5, .ref m6, .long sto, .int ni, .int ac, .int bl, .ref m7, .int (nI σ.2.2.1)]) E hK hP 0 rfl zC_M 2 (by decide) kw_592 (Or.inl rfl) rfl d_M_reach_1 ?_
    refine lv_iload_n hx hb d_M_reach_4 rfl (lv_at hl 1 rfl) ?_
    refine va_iald hx hb hK hP 2 1 rfl rfl (vp_in_nI hi (by decide)) d_M_reach_5 ?_
    rw [nI_clamp (i31 hi)]
    rw [hkd]
    refine lv_tableIn (off := 42) (tgt := 48) hx hb d_M_reach_6 (by decide) (by decide) (by decide) (by decide) ?_
    refine lv_aload_n hx hb d_M_reach_48 rfl (lv_at hl 0 rfl) ?_
    refine lv_iload_n hx hb d_M_reach_49 rfl (lv_at hl 1 rfl) ?_
    refine lv_iload_n hx hb d_M_reach_50 rfl (lv_at hl 2 rfl) ?_
    refine zcV (As := [.int (nI i), .int x]) (rest := []) (ci := 11) E cy_M_reachLamp kw_698 ks_16 kw_696 (c_M_reachLamp l dC dI g1 g2 g3 g4 g5 g6 g7 A aM m1 m2 m3 m4 m5 m6 m7 d n kd ht tk so lt sto ni ac bl i hi σ x) hK hP hD hS 0 rfl zC_M.1 rfl rfl hl.1 rfl (Nat.le_of_ble_eq_true rfl) ⟨Nat.le_of_ble_eq_true rfl, Nat.le_of_ble_eq_true rfl⟩ d_M_reach_51 ⟨Nat.le_refl _, Nat.le_refl _⟩ (fun H locs hP hD hS => ?_)
    have hP : va_P (dC, dI) classes (wm g1 g2 g3 g4 g5 g6 g7 aM m1 m2 m3 m4 m5 m6 m7 d n kd ht tk (upd so i ((rLamp (ht i) x σ).2).1) lt sto ni ac bl ((rLamp (ht i) x σ).2).2) H := hP
    have hD : va_D A (wm g1 g2 g3 g4 g5 g6 g7 aM m1 m2 m3 m4 m5 m6 m7 d n kd ht tk (upd so i ((rLamp (ht i) x σ).2).1) lt sto ni ac bl ((rLamp (ht i) x σ).2).2) := hD
    exact zri E hK hP hD hS d_M_reach_54
  · refine zM_of "CoastLampsModel" rfl (by decide) (Nat.le_of_ble_eq_true rfl) ?_
    intro p e s m below meth c ls E hP hK hD hS hl
    obtain ⟨hx, hb, hml, ho, hts, hr, hlk⟩ := id E
    have hl : lv_has ls 3 [(0, .ref aM), (1, .int (nI i)), (2, .int x)] := hl
    refine lv_aload_n hx hb d_M_reach_0 rfl (lv_at hl 0 rfl) ?_
    refine zget (ci := 11) (fs := [.ref m1, .int (nI n), .ref m2, .ref m3, .ref m4, .ref m5, .ref m6, .long sto, .int ni, .int ac, .int bl, .ref m7, .int (nI σ.2.2.1)]) E hK hP 0 rfl zC_M 2 (by decide) kw_592 (Or.inl rfl) rfl d_M_reach_1 ?_
    refine lv_iload_n hx hb d_M_reach_4 rfl (lv_at hl 1 rfl) ?_
    refine va_iald hx hb hK hP 2 1 rfl rfl (vp_in_nI hi (by decide)) d_M_reach_5 ?_
    rw [nI_clamp (i31 hi)]
    rw [hkd]
    refine lv_tableIn (off := 49) (tgt := 55) hx hb d_M_reach_6 (by decide) (by decide) (by decide) (by decide) ?_
    refine lv_aload_n hx hb d_M_reach_55 rfl (lv_at hl 0 rfl) ?_
    refine lv_iload_n hx hb d_M_reach_56 rfl (lv_at hl 1 rfl) ?_
    refine lv_iload_n hx hb d_M_reach_57 rfl (lv_at hl 2 rfl) ?_
    refine zcV (As := [.int (nI i), .int x]) (rest := []) (ci := 11) E cy_M_reachRound kw_702 ks_17 kw_700 (c_M_reachRound l dC dI g1 g2 g3 g4 g5 g6 g7 A aM m1 m2 m3 m4 m5 m6 m7 d n kd ht tk so lt sto ni ac bl i hi σ x) hK hP hD hS 0 rfl zC_M.1 rfl rfl hl.1 rfl (Nat.le_of_ble_eq_true rfl) ⟨Nat.le_of_ble_eq_true rfl, Nat.le_of_ble_eq_true rfl⟩ d_M_reach_58 ⟨Nat.le_refl _, Nat.le_refl _⟩ (fun H locs hP hD hS => ?_)
    have hP : va_P (dC, dI) classes (wm g1 g2 g3 g4 g5 g6 g7 aM m1 m2 m3 m4 m5 m6 m7 d n kd ht tk (upd so i ((rRound d (ht i) x σ).2).1) lt sto ni ac bl ((rRound d (ht i) x σ).2).2) H := hP
    have hD : va_D A (wm g1 g2 g3 g4 g5 g6 g7 aM m1 m2 m3 m4 m5 m6 m7 d n kd ht tk (upd so i ((rRound d (ht i) x σ).2).1) lt sto ni ac bl ((rRound d (ht i) x σ).2).2) := hD
    exact zri E hK hP hD hS d_M_reach_61
  · refine zM_of "CoastLampsModel" rfl (by decide) (Nat.le_of_ble_eq_true rfl) ?_
    intro p e s m below meth c ls E hP hK hD hS hl
    obtain ⟨hx, hb, hml, ho, hts, hr, hlk⟩ := id E
    have hl : lv_has ls 3 [(0, .ref aM), (1, .int (nI i)), (2, .int x)] := hl
    refine lv_aload_n hx hb d_M_reach_0 rfl (lv_at hl 0 rfl) ?_
    refine zget (ci := 11) (fs := [.ref m1, .int (nI n), .ref m2, .ref m3, .ref m4, .ref m5, .ref m6, .long sto, .int ni, .int ac, .int bl, .ref m7, .int (nI σ.2.2.1)]) E hK hP 0 rfl zC_M 2 (by decide) kw_592 (Or.inl rfl) rfl d_M_reach_1 ?_
    refine lv_iload_n hx hb d_M_reach_4 rfl (lv_at hl 1 rfl) ?_
    refine va_iald hx hb hK hP 2 1 rfl rfl (vp_in_nI hi (by decide)) d_M_reach_5 ?_
    rw [nI_clamp (i31 hi)]
    rw [hkd]
    refine lv_tableIn (off := 56) (tgt := 62) hx hb d_M_reach_6 (by decide) (by decide) (by decide) (by decide) ?_
    refine lv_aload_n hx hb d_M_reach_62 rfl (lv_at hl 0 rfl) ?_
    refine lv_iload_n hx hb d_M_reach_63 rfl (lv_at hl 1 rfl) ?_
    refine lv_iload_n hx hb d_M_reach_64 rfl (lv_at hl 2 rfl) ?_
    refine zcV (As := [.int (nI i), .int x]) (rest := []) (ci := 11) E cy_M_reachTwin kw_706 ks_18 kw_704 (c_M_reachTwin l dC dI g1 g2 g3 g4 g5 g6 g7 A aM m1 m2 m3 m4 m5 m6 m7 d n kd ht tk so lt sto ni ac bl i hi σ x) hK hP hD hS 0 rfl zC_M.1 rfl rfl hl.1 rfl (Nat.le_of_ble_eq_true rfl) ⟨Nat.le_of_ble_eq_true rfl, Nat.le_of_ble_eq_true rfl⟩ d_M_reach_65 ⟨Nat.le_refl _, Nat.le_refl _⟩ (fun H locs hP hD hS => ?_)
    have hP : va_P (dC, dI) classes (wm g1 g2 g3 g4 g5 g6 g7 aM m1 m2 m3 m4 m5 m6 m7 d n kd ht tk (upd so i ((rTwin d (ht i) x σ).2).1) lt sto ni ac bl ((rTwin d (ht i) x σ).2).2) H := hP
    have hD : va_D A (wm g1 g2 g3 g4 g5 g6 g7 aM m1 m2 m3 m4 m5 m6 m7 d n kd ht tk (upd so i ((rTwin d (ht i) x σ).2).1) lt sto ni ac bl ((rTwin d (ht i) x σ).2).2) := hD
    exact zri E hK hP hD hS d_M_reach_68
  · refine zM_of "CoastLampsModel" rfl (by decide) (Nat.le_of_ble_eq_true rfl) ?_
    intro p e s m below meth c ls E hP hK hD hS hl
    obtain ⟨hx, hb, hml, ho, hts, hr, hlk⟩ := id E
    have hl : lv_has ls 3 [(0, .ref aM), (1, .int (nI i)), (2, .int x)] := hl
    refine lv_aload_n hx hb d_M_reach_0 rfl (lv_at hl 0 rfl) ?_
    refine zget (ci := 11) (fs := [.ref m1, .int (nI n), .ref m2, .ref m3, .ref m4, .ref m5, .ref m6, .long sto, .int ni, .int ac, .int bl, .ref m7, .int (nI σ.2.2.1)]) E hK hP 0 rfl zC_M 2 (by decide) kw_592 (Or.inl rfl) rfl d_M_reach_1 ?_
    refine lv_iload_n hx hb d_M_reach_4 rfl (lv_at hl 1 rfl) ?_
    refine va_iald hx hb hK hP 2 1 rfl rfl (vp_in_nI hi (by decide)) d_M_reach_5 ?_
    rw [nI_clamp (i31 hi)]
    rw [hkd]
    refine lv_tableIn (off := 63) (tgt := 69) hx hb d_M_reach_6 (by decide) (by decide) (by decide) (by decide) ?_
    refine lv_aload_n hx hb d_M_reach_69 rfl (lv_at hl 0 rfl) ?_
    refine lv_iload_n hx hb d_M_reach_70 rfl (lv_at hl 1 rfl) ?_
    refine lv_iload_n hx hb d_M_reach_71 rfl (lv_at hl 2 rfl) ?_
    refine zcV (As := [.int (nI i), .int x]) (rest := []) (ci := 11) E cy_M_reachDrum kw_710 ks_19 kw_708 (c_M_reachDrum l dC dI g1 g2 g3 g4 g5 g6 g7 A aM m1 m2 m3 m4 m5 m6 m7 d n kd ht tk so lt sto ni ac bl i hi σ x) hK hP hD hS 0 rfl zC_M.1 rfl rfl hl.1 rfl (Nat.le_of_ble_eq_true rfl) ⟨Nat.le_of_ble_eq_true rfl, Nat.le_of_ble_eq_true rfl⟩ d_M_reach_72 ⟨Nat.le_refl _, Nat.le_refl _⟩ (fun H locs hP hD hS => ?_)
    have hP : va_P (dC, dI) classes (wm g1 g2 g3 g4 g5 g6 g7 aM m1 m2 m3 m4 m5 m6 m7 d n kd ht tk (upd so i ((rDrum d (ht i) x σ).2).1) lt sto ni ac bl ((rDrum d (ht i) x σ).2).2) H := hP
    have hD : va_D A (wm g1 g2 g3 g4 g5 g6 g7 aM m1 m2 m3 m4 m5 m6 m7 d n kd ht tk (upd so i ((rDrum d (ht i) x σ).2).1) lt sto ni ac bl ((rDrum d (ht i) x σ).2).2) := hD
    exact zri E hK hP hD hS d_M_reach_75
  · refine zM_of "CoastLampsModel" rfl (by decide) (Nat.le_of_ble_eq_true rfl) ?_
    intro p e s m below meth c ls E hP hK hD hS hl
    obtain ⟨hx, hb, hml, ho, hts, hr, hlk⟩ := id E
    have hl : lv_has ls 3 [(0, .ref aM), (1, .int (nI i)), (2, .int x)] := hl
    refine lv_aload_n hx hb d_M_reach_0 rfl (lv_at hl 0 rfl) ?_
    refine zget (ci := 11) (fs := [.ref m1, .int (nI n), .ref m2, .ref m3, .ref m4, .ref m5, .ref m6, .long sto, .int ni, .int ac, .int bl, .ref m7, .int (nI σ.2.2.1)]) E hK hP 0 rfl zC_M 2 (by decide) kw_592 (Or.inl rfl) rfl d_M_reach_1 ?_
    refine lv_iload_n hx hb d_M_reach_4 rfl (lv_at hl 1 rfl) ?_
    refine va_iald hx hb hK hP 2 1 rfl rfl (vp_in_nI hi (by decide)) d_M_reach_5 ?_
    rw [nI_clamp (i31 hi)]
    rw [hkd]
    refine lv_tableIn (off := 63) (tgt := 69) hx hb d_M_reach_6 (by decide) (by decide) (by decide) (by decide) ?_
    refine lv_aload_n hx hb d_M_reach_69 rfl (lv_at hl 0 rfl) ?_
    refine lv_iload_n hx hb d_M_reach_70 rfl (lv_at hl 1 rfl) ?_
    refine lv_iload_n hx hb d_M_reach_71 rfl (lv_at hl 2 rfl) ?_
    refine zcV (As := [.int (nI i), .int x]) (rest := []) (ci := 11) E cy_M_reachDrum kw_710 ks_19 kw_708 (c_M_reachDrum l dC dI g1 g2 g3 g4 g5 g6 g7 A aM m1 m2 m3 m4 m5 m6 m7 d n kd ht tk so lt sto ni ac bl i hi σ x) hK hP hD hS 0 rfl zC_M.1 rfl rfl hl.1 rfl (Nat.le_of_ble_eq_true rfl) ⟨Nat.le_of_ble_eq_true rfl, Nat.le_of_ble_eq_true rfl⟩ d_M_reach_72 ⟨Nat.le_refl _, Nat.le_refl _⟩ (fun H locs hP hD hS => ?_)
    have hP : va_P (dC, dI) classes (wm g1 g2 g3 g4 g5 g6 g7 aM m1 m2 m3 m4 m5 m6 m7 d n kd ht tk (upd so i ((rDrum d (ht i) x σ).2).1) lt sto ni ac bl ((rDrum d (ht i) x σ).2).2) H := hP
    have hD : va_D A (wm g1 g2 g3 g4 g5 g6 g7 aM m1 m2 m3 m4 m5 m6 m7 d n kd ht tk (upd so i ((rDrum d (ht i) x σ).2).1) lt sto ni ac bl ((rDrum d (ht i) x σ).2).2) := hD
    exact zri E hK hP hD hS d_M_reach_75
  · refine zM_of "CoastLampsModel" rfl (by decide) (Nat.le_of_ble_eq_true rfl) ?_
    intro p e s m below meth c ls E hP hK hD hS hl
    obtain ⟨hx, hb, hml, ho, hts, hr, hlk⟩ := id E
    have hl : lv_has ls 3 [(0, .ref aM), (1, .int (nI i)), (2, .int x)] := hl
    refine lv_aload_n hx hb d_M_reach_0 rfl (lv_at hl 0 rfl) ?_
    refine zget (ci := 11) (fs := [.ref m1, .int (nI n), .ref m2, .ref m3, .ref m4, .ref m5, .ref m6, .long sto, .int ni, .int ac, .int bl, .ref m7, .int (nI σ.2.2.1)]) E hK hP 0 rfl zC_M 2 (by decide) kw_592 (Or.inl rfl) rfl d_M_reach_1 ?_
    refine lv_iload_n hx hb d_M_reach_4 rfl (lv_at hl 1 rfl) ?_
    refine va_iald hx hb hK hP 2 1 rfl rfl (vp_in_nI hi (by decide)) d_M_reach_5 ?_
    rw [nI_clamp (i31 hi)]
    rw [hkd]
    refine lv_tableIn (off := 70) (tgt := 76) hx hb d_M_reach_6 (by decide) (by decide) (by decide) (by decide) ?_
    refine lv_aload_n hx hb d_M_reach_76 rfl (lv_at hl 0 rfl) ?_
    refine lv_iload_n hx hb d_M_reach_77 rfl (lv_at hl 1 rfl) ?_
    refine lv_iload_n hx hb d_M_reach_78 rfl (lv_at hl 2 rfl) ?_
    refine zcV (As := [.int (nI i), .int x]) (rest := []) (ci := 11) E cy_M_reachGas kw_714 ks_20 kw_712 (c_M_reachGas l dC dI g1 g2 g3 g4 g5 g6 g7 A aM m1 m2 m3 m4 m5 m6 m7 d n kd ht tk so lt sto ni ac bl i hi σ x) hK hP hD hS 0 rfl zC_M.1 rfl rfl hl.1 rfl (Nat.le_of_ble_eq_true rfl) ⟨Nat.le_of_ble_eq_true rfl, Nat.le_of_ble_eq_true rfl⟩ d_M_reach_79 ⟨Nat.le_refl _, Nat.le_refl _⟩ (fun H locs hP hD hS => ?_)
    have hP : va_P (dC, dI) classes (wm g1 g2 g3 g4 g5 g6 g7 aM m1 m2 m3 m4 m5 m6 m7 d n kd ht tk (upd so i ((rGas (ht i) x σ).2).1) lt sto ni ac bl ((rGas (ht i) x σ).2).2) H := hP
    have hD : va_D A (wm g1 g2 g3 g4 g5 g6 g7 aM m1 m2 m3 m4 m5 m6 m7 d n kd ht tk (upd so i ((rGas (ht i) x σ).2).1) lt sto ni ac bl ((rGas (ht i) x σ).2).2) := hD
    exact zri E hK hP hD hS d_M_reach_82
  · refine zM_of "CoastLampsModel" rfl (by decide) (Nat.le_of_ble_eq_true rfl) ?_
    intro p e s m below meth c ls E hP hK hD hS hl
    obtain ⟨hx, hb, hml, ho, hts, hr, hlk⟩ := id E
    have hl : lv_has ls 3 [(0, .ref aM), (1, .int (nI i)), (2, .int x)] := hl
    refine lv_aload_n hx hb d_M_reach_0 rfl (lv_at hl 0 rfl) ?_
    refine zget (ci := 11) (fs := [.ref m1, .int (nI n), .ref m2, .ref m3, .ref m4, .ref m5, .ref m6, .long sto, .int ni, .int ac, .int bl, .ref m7, .int (nI σ.2.2.1)]) E hK hP 0 rfl zC_M 2 (by decide) kw_592 (Or.inl rfl) rfl d_M_reach_1 ?_
    refine lv_iload_n hx hb d_M_reach_4 rfl (lv_at hl 1 rfl) ?_
    refine va_iald hx hb hK hP 2 1 rfl rfl (vp_in_nI hi (by decide)) d_M_reach_5 ?_
    rw [nI_clamp (i31 hi)]
    rw [hkd]
    refine lv_tableIn (off := 70) (tgt := 76) hx hb d_M_reach_6 (by decide) (by decide) (by decide) (by decide) ?_
    refine lv_aload_n hx hb d_M_reach_76 rfl (lv_at hl 0 rfl) ?_
    refine lv_iload_n hx hb d_M_reach_77 rfl (lv_at hl 1 rfl) ?_
    refine lv_iload_n hx hb d_M_reach_78 rfl (lv_at hl 2 rfl) ?_
    refine zcV (As := [.int (nI i), .int x]) (rest := []) (ci := 11) E cy_M_reachGas kw_714 ks_20 kw_712 (c_M_reachGas l dC dI g1 g2 g3 g4 g5 g6 g7 A aM m1 m2 m3 m4 m5 m6 m7 d n kd ht tk so lt sto ni ac bl i hi σ x) hK hP hD hS 0 rfl zC_M.1 rfl rfl hl.1 rfl (Nat.le_of_ble_eq_true rfl) ⟨Nat.le_of_ble_eq_true rfl, Nat.le_of_ble_eq_true rfl⟩ d_M_reach_79 ⟨Nat.le_refl _, Nat.le_refl _⟩ (fun H locs hP hD hS => ?_)
    have hP : va_P (dC, dI) classes (wm g1 g2 g3 g4 g5 g6 g7 aM m1 m2 m3 m4 m5 m6 m7 d n kd ht tk (upd so i ((rGas (ht i) x σ).2).1) lt sto ni ac bl ((rGas (ht i) x σ).2).2) H := hP
    have hD : va_D A (wm g1 g2 g3 g4 g5 g6 g7 aM m1 m2 m3 m4 m5 m6 m7 d n kd ht tk (upd so i ((rGas (ht i) x σ).2).1) lt sto ni ac bl ((rGas (ht i) x σ).2).2) := hD
    exact zri E hK hP hD hS d_M_reach_82
  · refine zM_of "CoastLampsModel" rfl (by decide) (Nat.le_of_ble_eq_true rfl) ?_
    intro p e s m below meth c ls E hP hK hD hS hl
    obtain ⟨hx, hb, hml, ho, hts, hr, hlk⟩ := id E
    have hl : lv_has ls 3 [(0, .ref aM), (1, .int (nI i)), (2, .int x)] := hl
    refine lv_aload_n hx hb d_M_reach_0 rfl (lv_at hl 0 rfl) ?_
    refine zget (ci := 11) (fs := [.ref m1, .int (nI n), .ref m2, .ref m3, .ref m4, .ref m5, .ref m6, .long sto, .int ni, .int ac, .int bl, .ref m7, .int (nI σ.2.2.1)]) E hK hP 0 rfl zC_M 2 (by decide) kw_592 (Or.inl rfl) rfl d_M_reach_1 ?_
    refine lv_iload_n hx hb d_M_reach_4 rfl (lv_at hl 1 rfl) ?_
    refine va_iald hx hb hK hP 2 1 rfl rfl (vp_in_nI hi (by decide)) d_M_reach_5 ?_
    rw [nI_clamp (i31 hi)]
    rw [hkd]
    refine lv_tableOut (tgt := 83) hx hb d_M_reach_6 (by decide) (by decide) ?_
    refine lv_aload_n hx hb d_M_reach_83 rfl (lv_at hl 0 rfl) ?_
    refine lv_iload_n hx hb d_M_reach_84 rfl (lv_at hl 1 rfl) ?_
    refine lv_iload_n hx hb d_M_reach_85 rfl (lv_at hl 2 rfl) ?_
    refine zcV (As := [.int (nI i), .int x]) (rest := []) (ci := 11) E cy_M_reachBuoy kw_718 ks_21 kw_716 (c_M_reachBuoy l dC dI g1 g2 g3 g4 g5 g6 g7 A aM m1 m2 m3 m4 m5 m6 m7 d n kd ht tk so lt sto ni ac bl i hi σ x) hK hP hD hS 0 rfl zC_M.1 rfl rfl hl.1 rfl (Nat.le_of_ble_eq_true rfl) ⟨Nat.le_of_ble_eq_true rfl, Nat.le_of_ble_eq_true rfl⟩ d_M_reach_86 ⟨Nat.le_refl _, Nat.le_refl _⟩ (fun H locs hP hD hS => ?_)
    have hP : va_P (dC, dI) classes (wm g1 g2 g3 g4 g5 g6 g7 aM m1 m2 m3 m4 m5 m6 m7 d n kd ht tk (upd so i ((rBuoy (ht i) x σ).2).1) lt sto ni ac bl ((rBuoy (ht i) x σ).2).2) H := hP
    have hD : va_D A (wm g1 g2 g3 g4 g5 g6 g7 aM m1 m2 m3 m4 m5 m6 m7 d n kd ht tk (upd so i ((rBuoy (ht i) x σ).2).1) lt sto ni ac bl ((rBuoy (ht i) x σ).2).2) := hD
    exact zri E hK hP hD hS d_M_reach_89
  · refine zM_of "CoastLampsModel" rfl (by decide) (Nat.le_of_ble_eq_true rfl) ?_
    intro p e s m below meth c ls E hP hK hD hS hl
    obtain ⟨hx, hb, hml, ho, hts, hr, hlk⟩ := id E
    have hl : lv_has ls 3 [(0, .ref aM), (1, .int (nI i)), (2, .int x)] := hl
    refine lv_aload_n hx hb d_M_reach_0 rfl (lv_at hl 0 rfl) ?_
    refine zget (ci := 11) (fs := [.ref m1, .int (nI n), .ref m2, .ref m3, .ref m4, .ref m5, .ref m6, .long sto, .int ni, .int ac, .int bl, .ref m7, .int (nI σ.2.2.1)]) E hK hP 0 rfl zC_M 2 (by decide) kw_592 (Or.inl rfl) rfl d_M_reach_1 ?_
    refine lv_iload_n hx hb d_M_reach_4 rfl (lv_at hl 1 rfl) ?_
    refine va_iald hx hb hK hP 2 1 rfl rfl (vp_in_nI hi (by decide)) d_M_reach_5 ?_
    rw [nI_clamp (i31 hi)]
    rw [hkd]
    refine lv_tableOut (tgt := 83) hx hb d_M_reach_6 (by decide) (by decide) ?_
    refine lv_aload_n hx hb d_M_reach_83 rfl (lv_at hl 0 rfl) ?_
    refine lv_iload_n hx hb d_M_reach_84 rfl (lv_at hl 1 rfl) ?_
    refine lv_iload_n hx hb d_M_reach_85 rfl (lv_at hl 2 rfl) ?_
    refine zcV (As := [.int (nI i), .int x]) (rest := []) (ci := 11) E cy_M_reachBuoy kw_718 ks_21 kw_716 (c_M_reachBuoy l dC dI g1 g2 g3 g4 g5 g6 g7 A aM m1 m2 m3 m4 m5 m6 m7 d n kd ht tk so lt sto ni ac bl i hi σ x) hK hP hD hS 0 rfl zC_M.1 rfl rfl hl.1 rfl (Nat.le_of_ble_eq_true rfl) ⟨Nat.le_of_ble_eq_true rfl, Nat.le_of_ble_eq_true rfl⟩ d_M_reach_86 ⟨Nat.le_refl _, Nat.le_refl _⟩ (fun H locs hP hD hS => ?_)
    have hP : va_P (dC, dI) classes (wm g1 g2 g3 g4 g5 g6 g7 aM m1 m2 m3 m4 m5 m6 m7 d n kd ht tk (upd so i ((rBuoy (ht i) x σ).2).1) lt sto ni ac bl ((rBuoy (ht i) x σ).2).2) H := hP
    have hD : va_D A (wm g1 g2 g3 g4 g5 g6 g7 aM m1 m2 m3 m4 m5 m6 m7 d n kd ht tk (upd so i ((rBuoy (ht i) x σ).2).1) lt sto ni ac bl ((rBuoy (ht i) x σ).2).2) := hD
    exact zri E hK hP hD hS d_M_reach_89
set_option maxHeartbeats 1000000 in
set_option maxRecDepth 100000 in
theorem c_M_flash (l : Launch) (dC : Nat → ClassId) (dI : Nat → Nat → Nat) (g1 g2 g3 g4 g5 g6 g7 : ClassId) (A : Nat → Prop) (aM m1 m2 m3 m4 m5 m6 m7 : Nat) (d : Nat → Int32) (n : Nat) (kd ht tk so lt : Nat → Int32) (sto : Int64) (ni ac bl : Int32) (i : Nat) (hi : i < 60) (σ : zS) (k : Nat) (hk : k < 9) (hkd : kd i = nI (k + 1)) (x : Int32) : zM l y_M_flash b_M_flash 3 (some (FieldType.int)) 4 84 [.ref aM, .int (nI i), .int x] (dC, dI) (t7 g1 g2 g3 g4 g5 g6 g7) A (wm g1 g2 g3 g4 g5 g6 g7 aM m1 m2 m3 m4 m5 m6 m7 d n kd ht tk (upd so i σ.1) lt sto ni ac bl σ.2) (wm g1 g2 g3 g4 g5 g6 g7 aM m1 m2 m3 m4 m5 m6 m7 d n kd ht tk (upd so i (flashK k x σ).2.1) lt sto ni ac bl (flashK k x σ).2.2) (some (.int (flashK k x σ).1)) := by
  rcases (show k = 0 ∨ k = 1 ∨ k = 2 ∨ k = 3 ∨ k = 4 ∨ k = 5 ∨ k = 6 ∨ k = 7 ∨ k = 8 by omega) with rfl | rfl | rfl | rfl | rfl | rfl | rfl | rfl | rfl
  · refine zM_of "CoastLampsModel" rfl (by decide) (Nat.le_of_ble_eq_true rfl) ?_
    intro p e s m below meth c ls E hP hK hD hS hl
    obtain ⟨hx, hb, hml, ho, hts, hr, hlk⟩ := id E
    have hl : lv_has ls 3 [(0, .ref aM), (1, .int (nI i)), (2, .int x)] := hl
    refine lv_aload_n hx hb d_M_flash_0 rfl (lv_at hl 0 rfl) ?_
    refine zget (ci := 11) (fs := [.ref m1, .int (nI n), .ref m2, .ref m3, .ref m4, .ref m5, .ref m6, .long sto, .int ni, .int ac, .int bl, .ref m7, .int (nI σ.2.2.1)]) E hK hP 0 rfl zC_M 2 (by decide) kw_592 (Or.inl rfl) rfl d_M_flash_1 ?_
    refine lv_iload_n hx hb d_M_flash_4 rfl (lv_at hl 1 rfl) ?_
    refine va_iald hx hb hK hP 2 1 rfl rfl (vp_in_nI hi (by decide)) d_M_flash_5 ?_
    rw [nI_clamp (i31 hi)]
    rw [hkd]
    refine lv_tableOut (tgt := 72) hx hb d_M_flash_6 (by decide) (by decide) ?_
    refine lv_aload_n hx hb d_M_flash_72 rfl (lv_at hl 0 rfl) ?_
    refine zcV (As := []) (rest := []) (ci := 11) E cy_M_flashLamp kw_730 ks_24 kw_728 (c_M_flashLamp l dC dI g1 g2 g3 g4 g5 g6 g7 A aM m1 m2 m3 m4 m5 m6 m7 d n kd ht tk so lt sto ni ac bl i hi σ) hK hP hD hS 0 rfl zC_M.1 rfl rfl hl.1 rfl (Nat.le_of_ble_eq_true rfl) ⟨Nat.le_of_ble_eq_true rfl, Nat.le_of_ble_eq_true rfl⟩ d_M_flash_73 ⟨Nat.le_refl _, Nat.le_refl _⟩ (fun H locs hP hD hS => ?_)
    have hP : va_P (dC, dI) classes (wm g1 g2 g3 g4 g5 g6 g7 aM m1 m2 m3 m4 m5 m6 m7 d n kd ht tk (upd so i ((fLamp σ).2).1) lt sto ni ac bl ((fLamp σ).2).2) H := hP
    have hD : va_D A (wm g1 g2 g3 g4 g5 g6 g7 aM m1 m2 m3 m4 m5 m6 m7 d n kd ht tk (upd so i ((fLamp σ).2).1) lt sto ni ac bl ((fLamp σ).2).2) := hD
    exact zri E hK hP hD hS d_M_flash_76
  · refine zM_of "CoastLampsModel" rfl (by decide) (Nat.le_of_ble_eq_true rfl) ?_
    intro p e s m below meth c ls E hP hK hD hS hl
    obtain ⟨hx, hb, hml, ho, hts, hr, hlk⟩ := id E
    have hl : lv_has ls 3 [(0, .ref aM), (1, .int (nI i)), (2, .int x)] := hl
    refine lv_aload_n hx hb d_M_flash_0 rfl (lv_at hl 0 rfl) ?_
    refine zget (ci := 11) (fs := [.ref m1, .int (nI n), .ref m2, .ref m3, .ref m4, .ref m5, .ref m6, .long sto, .int ni, .int ac, .int bl, .ref m7, .int (nI σ.2.2.1)]) E hK hP 0 rfl zC_M 2 (by decide) kw_592 (Or.inl rfl) rfl d_M_flash_1 ?_
    refine lv_iload_n hx hb d_M_flash_4 rfl (lv_at hl 1 rfl) ?_
    refine va_iald hx hb hK hP 2 1 rfl rfl (vp_in_nI hi (by decide)) d_M_flash_5 ?_
    rw [nI_clamp (i31 hi)]
    rw [hkd]
    refine lv_tableOut (tgt := 72) hx hb d_M_flash_6 (by decide) (by decide) ?_
    refine lv_aload_n hx hb d_M_flash_72 rfl (lv_at hl 0 rfl) ?_
    refine zcV (As := []) (rest := []) (ci := 11) E cy_M_flashLamp kw_730 ks_24 kw_728 (c_M_flashLamp l dC dI g1 g2 g3 g4 g5 g6 g7 A aM m1 m2 m3 m4 m5 m6 m7 d n kd ht tk so lt sto ni ac bl i hi σ) hK hP hD hS 0 rfl zC_M.1 rfl rfl hl.1 rfl (Nat.le_of_ble_eq_true rfl) ⟨Nat.le_of_ble_eq_true rfl, Nat.le_of_ble_eq_true rfl⟩ d_M_flash_73 ⟨Nat.le_refl _, Nat.le_refl _⟩ (fun H locs hP hD hS => ?_)
    have hP : va_P (dC, dI) classes (wm g1 g2 g3 g4 g5 g6 g7 aM m1 m2 m3 m4 m5 m6 m7 d n kd ht tk (upd so i ((fLamp σ).2).1) lt sto ni ac bl ((fLamp σ).2).2) H := hP
    have hD : va_D A (wm g1 g2 g3 g4 g5 g6 g7 aM m1 m2 m3 m4 m5 m6 m7 d n kd ht tk (upd so i ((fLamp σ).2).1) lt sto ni ac bl ((fLamp σ).2).2) := hD
    exact zri E hK hP hD hS d_M_flash_76
  · refine zM_of "CoastLampsModel" rfl (by decide) (Nat.le_of_ble_eq_true rfl) ?_
    intro p e s m below meth c ls E hP hK hD hS hl
    obtain ⟨hx, hb, hml, ho, hts, hr, hlk⟩ := id E
    have hl : lv_has ls 3 [(0, .ref aM), (1, .int (nI i)), (2, .int x)] := hl
    refine lv_aload_n hx hb d_M_flash_0 rfl (lv_at hl 0 rfl) ?_
    refine zget (ci := 11) (fs := [.ref m1, .int (nI n), .ref m2, .ref m3, .ref m4, .ref m5, .ref m6, .long sto, .int ni, .int ac, .int bl, .ref m7, .int (nI σ.2.2.1)]) E hK hP 0 rfl zC_M 2 (by decide) kw_592 (Or.inl rfl) rfl d_M_flash_1 ?_
    refine lv_iload_n hx hb d_M_flash_4 rfl (lv_at hl 1 rfl) ?_
    refine va_iald hx hb hK hP 2 1 rfl rfl (vp_in_nI hi (by decide)) d_M_flash_5 ?_
    rw [nI_clamp (i31 hi)]
    rw [hkd]
    refine lv_tableIn (off := 42) (tgt := 48) hx hb d_M_flash_6 (by decide) (by decide) (by decide) (by decide) ?_
    refine lv_aload_n hx hb d_M_flash_48 rfl (lv_at hl 0 rfl) ?_
    refine lv_iload_n hx hb d_M_flash_49 rfl (lv_at hl 2 rfl) ?_
    refine zcV (As := [.int x]) (rest := []) (ci := 11) E cy_M_flashTwin kw_726 ks_23 kw_724 (c_M_flashTwin l dC dI g1 g2 g3 g4 g5 g6 g7 A aM m1 m2 m3 m4 m5 m6 m7 d n kd ht tk so lt sto ni ac bl i hi σ x) hK hP hD hS 0 rfl zC_M.1 rfl rfl hl.1 rfl (Nat.le_of_ble_eq_true rfl) ⟨Nat.le_of_ble_eq_true rfl, Nat.le_of_ble_eq_true rfl⟩ d_M_flash_50 ⟨Nat.le_refl _, Nat.le_refl _⟩ (fun H locs hP hD hS => ?_)
    have hP : va_P (dC, dI) classes (wm g1 g2 g3 g4 g5 g6 g7 aM m1 m2 m3 m4 m5 m6 m7 d n kd ht tk (upd so i ((fTwin x σ).2).1) lt sto ni ac bl ((fTwin x σ).2).2) H := hP
    have hD : va_D A (wm g1 g2 g3 g4 g5 g6 g7 aM m1 m2 m3 m4 m5 m6 m7 d n kd ht tk (upd so i ((fTwin x σ).2).1) lt sto ni ac bl ((fTwin x σ).2).2) := hD
    exact zri E hK hP hD hS d_M_flash_53
  · refine zM_of "CoastLampsModel" rfl (by decide) (Nat.le_of_ble_eq_true rfl) ?_
    intro p e s m below meth c ls E hP hK hD hS hl
    obtain ⟨hx, hb, hml, ho, hts, hr, hlk⟩ := id E
    have hl : lv_has ls 3 [(0, .ref aM), (1, .int (nI i)), (2, .int x)] := hl
    refine lv_aload_n hx hb d_M_flash_0 rfl (lv_at hl 0 rfl) ?_
    refine zget (ci := 11) (fs := [.ref m1, .int (nI n), .ref m2, .ref m3, .ref m4, .ref m5, .ref m6, .long sto, .int ni, .int ac, .int bl, .ref m7, .int (nI σ.2.2.1)]) E hK hP 0 rfl zC_M 2 (by decide) kw_592 (Or.inl rfl) rfl d_M_flash_1 ?_
    refine lv_iload_n hx hb d_M_flash_4 rfl (lv_at hl 1 rfl) ?_
    refine va_iald hx hb hK hP 2 1 rfl rfl (vp_in_nI hi (by decide)) d_M_flash_5 ?_
    rw [nI_clamp (i31 hi)]
    rw [hkd]
    refine lv_tableIn (off := 42) (tgt := 48) hx hb d_M_flash_6 (by decide) (by decide) (by decide) (by decide) ?_
    refine lv_aload_n hx hb d_M_flash_48 rfl (lv_at hl 0 rfl) ?_
    refine lv_iload_n hx hb d_M_flash_49 rfl (lv_at hl 2 rfl) ?_
    refine zcV (As := [.int x]) (rest := []) (ci := 11) E cy_M_flashTwin kw_726 ks_23 kw_724 (c_M_flashTwin l dC dI g1 g2 g3 g4 g5 g6 g7 A aM m1 m2 m3 m4 m5 m6 m7 d n kd ht tk so lt sto ni ac bl i hi σ x) hK hP hD hS 0 rfl zC_M.1 rfl rfl hl.1 rfl (Nat.le_of_ble_eq_true rfl) ⟨Nat.le_of_ble_eq_true rfl, Nat.le_of_ble_eq_true rfl⟩ d_M_flash_50 ⟨Nat.le_refl _, Nat.le_refl _⟩ (fun H locs hP hD hS => ?_)
    have hP : va_P (dC, dI) classes (wm g1 g2 g3 g4 g5 g6 g7 aM m1 m2 m3 m4 m5 m6 m7 d n kd ht tk (upd so i ((fTwin x σ).2).1) lt sto ni ac bl ((fTwin x σ).2).2) H := hP
    have hD : va_D A (wm g1 g2 g3 g4 g5 g6 g7 aM m1 m2 m3 m4 m5 m6 m7 d n kd ht tk (upd so i ((fTwin x σ).2).1) lt sto ni ac bl ((fTwin x σ).2).2) := hD
    exact zri E hK hP hD hS d_M_flash_53
  · refine zM_of "CoastLampsModel" rfl (by decide) (Nat.le_of_ble_eq_true rfl) ?_
    intro p e s m below meth c ls E hP hK hD hS hl
    obtain ⟨hx, hb, hml, ho, hts, hr, hlk⟩ := id E
    have hl : lv_has ls 3 [(0, .ref aM), (1, .int (nI i)), (2, .int x)] := hl
    refine lv_aload_n hx hb d_M_flash_0 rfl (lv_at hl 0 rfl) ?_
    refine zget (ci := 11) (fs := [.ref m1, .int (nI n), .ref m2, .ref m3, .ref m4, .ref m5, .ref m6, .long sto, .int ni, .int ac, .int bl, .ref m7, .int (nI σ.2.2.1)]) E hK hP 0 rfl zC_M 2 (by decide) kw_592 (Or.inl rfl) rfl d_M_flash_1 ?_
    refine lv_iload_n hx hb d_M_flash_4 rfl (lv_at hl 1 rfl) ?_
    refine va_iald hx hb hK hP 2 1 rfl rfl (vp_in_nI hi (by decide)) d_M_flash_5 ?_
    rw [nI_clamp (i31 hi)]
    rw [hkd]
    refine lv_tableIn (off := 48) (tgt := 54) hx hb d_M_flash_6 (by decide) (by decide) (by decide) (by decide) ?_
    refine lv_aload_n hx hb d_M_flash_54 rfl (lv_at hl 0 rfl) ?_
    refine lv_iload_n hx hb d_M_flash_55 rfl (lv_at hl 2 rfl) ?_
    refine zcV (As := [.int x]) (rest := []) (ci := 11) E cy_M_flashSwing kw_734 ks_25 kw_732 (c_M_flashSwing l dC dI g1 g2 g3 g4 g5 g6 g7 A aM m1 m2 m3 m4 m5 m6 m7 d n kd ht tk so lt sto ni ac bl i hi σ x) hK hP hD hS 0 rfl zC_M.1 rfl rfl hl.1 rfl (Nat.le_of_ble_eq_true rfl) ⟨Nat.le_of_ble_eq_true rfl, Nat.le_of_ble_eq_true rfl⟩ d_M_flash_56 ⟨Nat.le_refl _, Nat.le_refl _⟩ (fun H locs hP hD hS => ?_)
    have hP : va_P (dC, dI) classes (wm g1 g2 g3 g4 g5 g6 g7 aM m1 m2 m3 m4 m5 m6 m7 d n kd ht tk (upd so i ((fSwing x σ).2).1) lt sto ni ac bl ((fSwing x σ).2).2) H := hP
    have hD : va_D A (wm g1 g2 g3 g4 g5 g6 g7 aM m1 m2 m3 m4 m5 m6 m7 d n kd ht tk (upd so i ((fSwing x σ).2).1) lt sto ni ac bl ((fSwing x σ).2).2) := hD
    exact zri E hK hP hD hS d_M_flash_59
  · refine zM_of "CoastLampsModel" rfl (by decide) (Nat.le_of_ble_eq_true rfl) ?_
    intro p e s m below meth c ls E hP hK hD hS hl
    obtain ⟨hx, hb, hml, ho, hts, hr, hlk⟩ := id E
    have hl : lv_has ls 3 [(0, .ref aM), (1, .int (nI i)), (2, .int x)] := hl
    refine lv_aload_n hx hb d_M_flash_0 rfl (lv_at hl 0 rfl) ?_
    refine zget (ci := 11) (fs := [.ref m1, .int (nI n), .ref m2, .ref m3, .ref m4, .ref m5, .ref m6, .long sto, .int ni, .int ac, .int bl, .ref m7, .int (nI σ.2.2.1)]) E hK hP 0 rfl zC_M 2 (by decide) kw_592 (Or.inl rfl) rfl d_M_flash_1 ?_
    refine lv_iload_n hx hb d_M_flash_4 rfl (lv_at hl 1 rfl) ?_
    refine va_iald hx hb hK hP 2 1 rfl rfl (vp_in_nI hi (by decide)) d_M_flash_5 ?_
    rw [nI_clamp (i31 hi)]
    rw [hkd]
    refine lv_tableIn (off := 66) (tgt := 72) hx hb d_M_flash_6 (by decide) (by decide) (by decide) (by decide) ?_
    refine lv_aload_n hx hb d_M_flash_72 rfl (lv_at hl 0 rfl) ?_
    refine zcV (As := []) (rest := []) (ci := 11) E cy_M_flashLamp kw_730 ks_24 kw_728 (c_M_flashLamp l dC dI g1 g2 g3 g4 g5 g6 g7 A aM m1 m2 m3 m4 m5 m6 m7 d n kd ht tk so lt sto ni ac bl i hi σ) hK hP hD hS 0 rfl zC_M.1 rfl rfl hl.1 rfl (Nat.le_of_ble_eq_true rfl) ⟨Nat.le_of_ble_eq_true rfl, Nat.le_of_ble_eq_true rfl⟩ d_M_flash_73 ⟨Nat.le_refl _, Nat.le_refl _⟩ (fun H locs hP hD hS => ?_)
    have hP : va_P (dC, dI) classes (wm g1 g2 g3 g4 g5 g6 g7 aM m1 m2 m3 m4 m5 m6 m7 d n kd ht tk (upd so i ((fLamp σ).2).1) lt sto ni ac bl ((fLamp σ).2).2) H := hP
    have hD : va_D A (wm g1 g2 g3 g4 g5 g6 g7 aM m1 m2 m3 m4 m5 m6 m7 d n kd ht tk (upd so i ((fLamp σ).2).1) lt sto ni ac bl ((fLamp σ).2).2) := hD
    exact zri E hK hP hD hS d_M_flash_76
  · refine zM_of "CoastLampsModel" rfl (by decide) (Nat.le_of_ble_eq_true rfl) ?_
    intro p e s m below meth c ls E hP hK hD hS hl
    obtain ⟨hx, hb, hml, ho, hts, hr, hlk⟩ := id E
    have hl : lv_has ls 3 [(0, .ref aM), (1, .int (nI i)), (2, .int x)] := hl
    refine lv_aload_n hx hb d_M_flash_0 rfl (lv_at hl 0 rfl) ?_
    refine zget (ci := 11) (fs := [.ref m1, .int (nI n), .ref m2, .ref m3, .ref m4, .ref m5, .ref m6, .long sto, .int ni, .int ac, .int bl, .ref m7, .int (nI σ.2.2.1)]) E hK hP 0 rfl zC_M 2 (by decide) kw_592 (Or.inl rfl) rfl d_M_flash_1 ?_
    refine lv_iload_n hx hb d_M_flash_4 rfl (lv_at hl 1 rfl) ?_
    refine va_iald hx hb hK hP 2 1 rfl rfl (vp_in_nI hi (by decide)) d_M_flash_5 ?_
    rw [nI_clamp (i31 hi)]
    rw [hkd]
    refine lv_tableIn (off := 54) (tgt := 60) hx hb d_M_flash_6 (by decide) (by decide) (by decide) (by decide) ?_
    refine lv_aload_n hx hb d_M_flash_60 rfl (lv_at hl 0 rfl) ?_
    refine lv_iload_n hx hb d_M_flash_61 rfl (lv_at hl 2 rfl) ?_
    refine zcV (As := [.int x]) (rest := []) (ci := 11) E cy_M_flashFlare kw_738 ks_26 kw_736 (c_M_flashFlare l dC dI g1 g2 g3 g4 g5 g6 g7 A aM m1 m2 m3 m4 m5 m6 m7 d n kd ht tk so lt sto ni ac bl i hi σ x) hK hP hD hS 0 rfl zC_M.1 rfl rfl hl.1 rfl (Nat.le_of_ble_eq_true rfl) ⟨Nat.le_of_ble_eq_true rfl, Nat.le_of_ble_eq_true rfl⟩ d_M_flash_62 ⟨Nat.le_refl _, Nat.le_refl _⟩ (fun H locs hP hD hS => ?_)
    have hP : va_P (dC, dI) classes (wm g1 g2 g3 g4 g5 g6 g7 aM m1 m2 m3 m4 m5 m6 m7 d n kd ht tk (upd so i ((fFlare x σ).2).1) lt sto ni ac bl ((fFlare x σ).2).2) H := hP
    have hD : va_D A (wm g1 g2 g3 g4 g5 g6 g7 aM m1 m2 m3 m4 m5 m6 m7 d n kd ht tk (upd so i ((fFlare x σ).2).1) lt sto ni ac bl ((fFlare x σ).2).2) := hD
    exact zri E hK hP hD hS d_M_flash_65
  · refine zM_of "CoastLampsModel" rfl (by decide) (Nat.le_of_ble_eq_true rfl) ?_
    intro p e s m below meth c ls E hP hK hD hS hl
    obtain ⟨hx, hb, hml, ho, hts, hr, hlk⟩ := id E
    have hl : lv_has ls 3 [(0, .ref aM), (1, .int (nI i)), (2, .int x)] := hl
    refine lv_aload_n hx hb d_M_flash_0 rfl (lv_at hl 0 rfl) ?_
    refine zget (ci := 11) (fs := [.ref m1, .int (nI n), .ref m2, .ref m3, .ref m4, .ref m5, .ref m6, .long sto, .int ni, .int ac, .int bl, .ref m7, .int (nI σ.2.2.1)]) E hK hP 0 rfl zC_M 2 (by decide) kw_592 (Or.inl rfl) rfl d_M_flash_1 ?_
    refine lv_iload_n hx hb d_M_flash_4 rfl (lv_at hl 1 rfl) ?_
    refine va_iald hx hb hK hP 2 1 rfl rfl (vp_in_nI hi (by decide)) d_M_flash_5 ?_
    rw [nI_clamp (i31 hi)]
    rw [hkd]
    refine lv_tableIn (off := 54) (tgt := 60) hx hb d_M_flash_6 (by decide) (by decide) (by decide) (by decide) ?_
    refine lv_aload_n hx hb d_M_flash_60 rfl (lv_at hl 0 rfl) ?_
    refine lv_iload_n hx hb d_M_flash_61 rfl (lv_at hl 2 rfl) ?_
    refine zcV (As := [.int x]) (rest := []) (ci := 11) E cy_M_flashFlare kw_738 ks_26 kw_736 (c_M_flashFlare l dC dI g1 g2 g3 g4 g5 g6 g7 A aM m1 m2 m3 m4 m5 m6 m7 d n kd ht tk so lt sto ni ac bl i hi σ x) hK hP hD hS 0 rfl zC_M.1 rfl rfl hl.1 rfl (Nat.le_of_ble_eq_true rfl) ⟨Nat.le_of_ble_eq_true rfl, Nat.le_of_ble_eq_true rfl⟩ d_M_flash_62 ⟨Nat.le_refl _, Nat.le_refl _⟩ (fun H locs hP hD hS => ?_)
    have hP : va_P (dC, dI) classes (wm g1 g2 g3 g4 g5 g6 g7 aM m1 m2 m3 m4 m5 m6 m7 d n kd ht tk (upd so i ((fFlare x σ).2).1) lt sto ni ac bl ((fFlare x σ).2).2) H := hP
    have hD : va_D A (wm g1 g2 g3 g4 g5 g6 g7 aM m1 m2 m3 m4 m5 m6 m7 d n kd ht tk (upd so i ((fFlare x σ).2).1) lt sto ni ac bl ((fFlare x σ).2).2) := hD
    exact zri E hK hP hD hS d_M_flash_65
  · refine zM_of "CoastLampsModel" rfl (by decide) (Nat.le_of_ble_eq_true rfl) ?_
    intro p e s m below meth c ls E hP hK hD hS hl
    obtain ⟨hx, hb, hml, ho, hts, hr, hlk⟩ := id E
    have hl : lv_has ls 3 [(0, .ref aM), (1, .int (nI i)), (2, .int x)] := hl
    refine lv_aload_n hx hb d_M_flash_0 rfl (lv_at hl 0 rfl) ?_
    refine zget (ci := 11) (fs := [.ref m1, .int (nI n), .ref m2, .ref m3, .ref m4, .ref m5, .ref m6, .long sto, .int ni, .int ac, .int bl, .ref m7, .int (nI σ.2.2.1)]) E hK hP 0 rfl zC_M 2 (by decide) kw_592 (Or.inl rfl) rfl d_M_flash_1 ?_
    refine lv_iload_n hx hb d_M_flash_4 rfl (lv_at hl 1 rfl) ?_
    refine va_iald hx hb hK hP 2 1 rfl rfl (vp_in_nI hi (by decide)) d_M_flash_5 ?_
    rw [nI_clamp (i31 hi)]
    rw [hkd]
    refine lv_tableIn (off := 60) (tgt := 66) hx hb d_M_flash_6 (by decide) (by decide) (by decide) (by decide) ?_
    refine lv_aload_n hx hb d_M_flash_66 rfl (lv_at hl 0 rfl) ?_
    refine lv_iload_n hx hb d_M_flash_67 rfl (lv_at hl 2 rfl) ?_
    refine zcV (As := [.int x]) (rest := []) (ci := 11) E cy_M_flashOuter kw_742 ks_27 kw_740 (c_M_flashOuter l dC dI g1 g2 g3 g4 g5 g6 g7 A aM m1 m2 m3 m4 m5 m6 m7 d n kd ht tk so lt sto ni ac bl i hi σ x) hK hP hD hS 0 rfl zC_M.1 rfl rfl hl.1 rfl (Nat.le_of_ble_eq_true rfl) ⟨Nat.le_of_ble_eq_true rfl, Nat.le_of_ble_eq_true rfl⟩ d_M_flash_68 ⟨Nat.le_refl _, Nat.le_refl _⟩ (fun H locs hP hD hS => ?_)
    have hP : va_P (dC, dI) classes (wm g1 g2 g3 g4 g5 g6 g7 aM m1 m2 m3 m4 m5 m6 m7 d n kd ht tk (upd so i ((fOuter x σ).2).1) lt sto ni ac bl ((fOuter x σ).2).2) H := hP
    have hD : va_D A (wm g1 g2 g3 g4 g5 g6 g7 aM m1 m2 m3 m4 m5 m6 m7 d n kd ht tk (upd so i ((fOuter x σ).2).1) lt sto ni ac bl ((fOuter x σ).2).2) := hD
    exact zri E hK hP hD hS d_M_flash_71
set_option maxHeartbeats 1000000 in
set_option maxRecDepth 100000 in
theorem c_M_tend (l : Launch) (dC : Nat → ClassId) (dI : Nat → Nat → Nat) (g1 g2 g3 g4 g5 g6 g7 : ClassId) (A : Nat → Prop) (aM m1 m2 m3 m4 m5 m6 m7 : Nat) (d : Nat → Int32) (n : Nat) (kd ht tk so lt : Nat → Int32) (sto : Int64) (ni ac bl : Int32) (i : Nat) (hi : i < 60) (σ : zS) (k : Nat) (hk : k < 9) (hkd : kd i = nI (k + 1)) (x : Int32) : zM l y_M_tend b_M_tend 3 (some (FieldType.int)) 4 89 [.ref aM, .int (nI i), .int x] (dC, dI) (t7 g1 g2 g3 g4 g5 g6 g7) A (wm g1 g2 g3 g4 g5 g6 g7 aM m1 m2 m3 m4 m5 m6 m7 d n kd ht tk (upd so i σ.1) lt sto ni ac bl σ.2) (wm g1 g2 g3 g4 g5 g6 g7 aM m1 m2 m3 m4 m5 m6 m7 d n kd ht tk (upd so i (tendK k d x σ).2.1) lt sto ni ac bl (tendK k d x σ).2.2) (some (.int (tendK k d x σ).1)) := by
  rcases (show k = 0 ∨ k = 1 ∨ k = 2 ∨ k = 3 ∨ k = 4 ∨ k = 5 ∨ k = 6 ∨ k = 7 ∨ k = 8 by omega) with rfl | rfl | rfl | rfl | rfl | rfl | rfl | rfl | rfl
  · refine zM_of "CoastLampsModel" rfl (by decide) (Nat.le_of_ble_eq_true rfl) ?_
    intro p e s m below meth c ls E hP hK hD hS hl
    obtain ⟨hx, hb, hml, ho, hts, hr, hlk⟩ := id E
    have hl : lv_has ls 3 [(0, .ref aM), (1, .int (nI i)), (2, .int x)] := hl
    refine lv_aload_n hx hb d_M_tend_0 rfl (lv_at hl 0 rfl) ?_
    refine zget (ci := 11) (fs := [.ref m1, .int (nI n), .ref m2, .ref m3, .ref m4, .ref m5, .ref m6, .long sto, .int ni, .int ac, .int bl, .ref m7, .int (nI σ.2.2.1)]) E hK hP 0 rfl zC_M 2 (by decide) kw_592 (Or.inl rfl) rfl d_M_tend_1 ?_
    refine lv_iload_n hx hb d_M_tend_4 rfl (lv_at hl 1 rfl) ?_
    refine va_iald hx hb hK hP 2 1 rfl rfl (vp_in_nI hi (by decide)) d_M_tend_5 ?_
    rw [nI_clamp (i31 hi)]
    rw [hkd]
    refine lv_tableOut (tgt := 73) hx hb d_M_tend_6 (by decide) (by decide) ?_
    refine lv_aload_n hx hb d_M_tend_73 rfl (lv_at hl 0 rfl) ?_
    refine lv_iload_n hx hb d_M_tend_74 rfl (lv_at hl 1 rfl) ?_
    refine lv_iload_n hx hb d_M_tend_75 rfl (lv_at hl 2 rfl) ?_
    refine zcV (As := [.int (nI i), .int x]) (rest := []) (ci := 11) E cy_M_tendLamp kw_754 ks_30 kw_752 (c_M_tendLamp l dC dI g1 g2 g3 g4 g5 g6 g7 A aM m1 m2 m3 m4 m5 m6 m7 d n kd ht tk so lt sto ni ac bl i hi σ x) hK hP hD hS 0 rfl zC_M.1 rfl rfl hl.1 rfl (Nat.le_of_ble_eq_true rfl) ⟨Nat.le_of_ble_eq_true rfl, Nat.le_of_ble_eq_true rfl⟩ d_M_tend_76 ⟨Nat.le_refl _, Nat.le_refl _⟩ (fun H locs hP hD hS => ?_)
    have hP : va_P (dC, dI) classes (wm g1 g2 g3 g4 g5 g6 g7 aM m1 m2 m3 m4 m5 m6 m7 d n kd ht tk (upd so i ((tLamp x σ).2).1) lt sto ni ac bl ((tLamp x σ).2).2) H := hP
    have hD : va_D A (wm g1 g2 g3 g4 g5 g6 g7 aM m1 m2 m3 m4 m5 m6 m7 d n kd ht tk (upd so i ((tLamp x σ).2).1) lt sto ni ac bl ((tLamp x σ).2).2) := hD
    exact zri E hK hP hD hS d_M_tend_79
  · refine zM_of "CoastLampsModel" rfl (by decide) (Nat.le_of_ble_eq_true rfl) ?_
    intro p e s m below meth c ls E hP hK hD hS hl
    obtain ⟨hx, hb, hml, ho, hts, hr, hlk⟩ := id E
    have hl : lv_has ls 3 [(0, .ref aM), (1, .int (nI i)), (2, .int x)] := hl
    refine lv_aload_n hx hb d_M_tend_0 rfl (lv_at hl 0 rfl) ?_
    refine zget (ci := 11) (fs := [.ref m1, .int (nI n), .ref m2, .ref m3, .ref m4, .ref m5, .ref m6, .long sto, .int ni, .int ac, .int bl, .ref m7, .int (nI σ.2.2.1)]) E hK hP 0 rfl zC_M 2 (by decide) kw_592 (Or.inl rfl) rfl d_M_tend_1 ?_
    refine lv_iload_n hx hb d_M_tend_4 rfl (lv_at hl 1 rfl) ?_
    refine va_iald hx hb hK hP 2 1 rfl rfl (vp_in_nI hi (by decide)) d_M_tend_5 ?_
    rw [nI_clamp (i31 hi)]
    rw [hkd]
    refine lv_tableIn (off := 46) (tgt := 52) hx hb d_M_tend_6 (by decide) (by decide) (by decide) (by decide) ?_
    refine lv_aload_n hx hb d_M_tend_52 rfl (lv_at hl 0 rfl) ?_
    refine lv_iload_n hx hb d_M_tend_53 rfl (lv_at hl 1 rfl) ?_
    refine lv_iload_n hx hb d_M_tend_54 rfl (lv_at hl 2 rfl) ?_
    refine zcV (As := [.int (nI i), .int x]) (rest := []) (ci := 11) E cy_M_tendRound kw_750 ks_29 kw_748 (c_M_tendRound l dC dI g1 g2 g3 g4 g5 g6 g7 A aM m1 m2 m3 m4 m5 m6 m7 d n kd ht tk so lt sto ni ac bl i hi σ x) hK hP hD hS 0 rfl zC_M.1 rfl rfl hl.1 rfl (Nat.le_of_ble_eq_true rfl) ⟨Nat.le_of_ble_eq_true rfl, Nat.le_of_ble_eq_true rfl⟩ d_M_tend_55 ⟨Nat.le_refl _, Nat.le_refl _⟩ (fun H locs hP hD hS => ?_)
    have hP : va_P (dC, dI) classes (wm g1 g2 g3 g4 g5 g6 g7 aM m1 m2 m3 m4 m5 m6 m7 d n kd ht tk (upd so i ((tRound x σ).2).1) lt sto ni ac bl ((tRound x σ).2).2) H := hP
    have hD : va_D A (wm g1 g2 g3 g4 g5 g6 g7 aM m1 m2 m3 m4 m5 m6 m7 d n kd ht tk (upd so i ((tRound x σ).2).1) lt sto ni ac bl ((tRound x σ).2).2) := hD
    exact zri E hK hP hD hS d_M_tend_58
  · refine zM_of "CoastLampsModel" rfl (by decide) (Nat.le_of_ble_eq_true rfl) ?_
    intro p e s m below meth c ls E hP hK hD hS hl
    obtain ⟨hx, hb, hml, ho, hts, hr, hlk⟩ := id E
    have hl : lv_has ls 3 [(0, .ref aM), (1, .int (nI i)), (2, .int x)] := hl
    refine lv_aload_n hx hb d_M_tend_0 rfl (lv_at hl 0 rfl) ?_
    refine zget (ci := 11) (fs := [.ref m1, .int (nI n), .ref m2, .ref m3, .ref m4, .ref m5, .ref m6, .long sto, .int ni, .int ac, .int bl, .ref m7, .int (nI σ.2.2.1)]) E hK hP 0 rfl zC_M 2 (by decide) kw_592 (Or.inl rfl) rfl d_M_tend_1 ?_
    refine lv_iload_n hx hb d_M_tend_4 rfl (lv_at hl 1 rfl) ?_
    refine va_iald hx hb hK hP 2 1 rfl rfl (vp_in_nI hi (by decide)) d_M_tend_5 ?_
    rw [nI_clamp (i31 hi)]
    rw [hkd]
    refine lv_tableIn (off := 46) (tgt := 52) hx hb d_M_tend_6 (by decide) (by decide) (by decide) (by decide) ?_
    refine lv_aload_n hx hb d_M_tend_52 rfl (lv_at hl 0 rfl) ?_
    refine lv_iload_n hx hb d_M_tend_53 rfl (lv_at hl 1 rfl) ?_
    refine lv_iload_n hx hb d_M_tend_54 rfl (lv_at hl 2 rfl) ?_
    refine zcV (As := [.int (nI i), .int x]) (rest := []) (ci := 11) E cy_M_tendRound kw_750 ks_29 kw_748 (c_M_tendRound l dC dI g1 g2 g3 g4 g5 g6 g7 A aM m1 m2 m3 m4 m5 m6 m7 d n kd ht tk so lt sto ni ac bl i hi σ x) hK hP hD hS 0 rfl zC_M.1 rfl rfl hl.1 rfl (Nat.le_of_ble_eq_true rfl) ⟨Nat.le_of_ble_eq_true rfl, Nat.le_of_ble_eq_true rfl⟩ d_M_tend_55 ⟨Nat.le_refl _, Nat.le_refl _⟩ (fun H locs hP hD hS => ?_)
    have hP : va_P (dC, dI) classes (wm g1 g2 g3 g4 g5 g6 g7 aM m1 m2 m3 m4 m5 m6 m7 d n kd ht tk (upd so i ((tRound x σ).2).1) lt sto ni ac bl ((tRound x σ).2).2) H := hP
    have hD : va_D A (wm g1 g2 g3 g4 g5 g6 g7 aM m1 m2 m3 m4 m5 m6 m7 d n kd ht tk (upd so i ((tRound x σ).2).1) lt sto ni ac bl ((tRound x σ).2).2) := hD
    exact zri E hK hP hD hS d_M_tend_58
  · refine zM_of "CoastLampsModel" rfl (by decide) (Nat.le_of_ble_eq_true rfl) ?_
    intro p e s m below meth c ls E hP hK hD hS hl
    obtain ⟨hx, hb, hml, ho, hts, hr, hlk⟩ := id E
    have hl : lv_has ls 3 [(0, .ref aM), (1, .int (nI i)), (2, .int x)] := hl
    refine lv_aload_n hx hb d_M_tend_0 rfl (lv_at hl 0 rfl) ?_
    refine zget (ci := 11) (fs := [.ref m1, .int (nI n), .ref m2, .ref m3, .ref m4, .ref m5, .ref m6, .long sto, .int ni, .int ac, .int bl, .ref m7, .int (nI σ.2.2.1)]) E hK hP 0 rfl zC_M 2 (by decide) kw_592 (Or.inl rfl) rfl d_M_tend_1 ?_
    refine lv_iload_n hx hb d_M_tend_4 rfl (lv_at hl 1 rfl) ?_
    refine va_iald hx hb hK hP 2 1 rfl rfl (vp_in_nI hi (by decide)) d_M_tend_5 ?_
    rw [nI_clamp (i31 hi)]
    rw [hkd]
    refine lv_tableIn (off := 53) (tgt := 59) hx hb d_M_tend_6 (by decide) (by decide) (by decide) (by decide) ?_
    refine lv_aload_n hx hb d_M_tend_59 rfl (lv_at hl 0 rfl) ?_
    refine lv_iload_n hx hb d_M_tend_60 rfl (lv_at hl 1 rfl) ?_
    refine lv_iload_n hx hb d_M_tend_61 rfl (lv_at hl 2 rfl) ?_
    refine zcV (As := [.int (nI i), .int x]) (rest := []) (ci := 11) E cy_M_tendDrum kw_758 ks_31 kw_756 (c_M_tendDrum l dC dI g1 g2 g3 g4 g5 g6 g7 A aM m1 m2 m3 m4 m5 m6 m7 d n kd ht tk so lt sto ni ac bl i hi σ x) hK hP hD hS 0 rfl zC_M.1 rfl rfl hl.1 rfl (Nat.le_of_ble_eq_true rfl) ⟨Nat.le_of_ble_eq_true rfl, Nat.le_of_ble_eq_true rfl⟩ d_M_tend_62 ⟨Nat.le_refl _, Nat.le_refl _⟩ (fun H locs hP hD hS => ?_)
    have hP : va_P (dC, dI) classes (wm g1 g2 g3 g4 g5 g6 g7 aM m1 m2 m3 m4 m5 m6 m7 d n kd ht tk (upd so i ((tDrum d x σ).2).1) lt sto ni ac bl ((tDrum d x σ).2).2) H := hP
    have hD : va_D A (wm g1 g2 g3 g4 g5 g6 g7 aM m1 m2 m3 m4 m5 m6 m7 d n kd ht tk (upd so i ((tDrum d x σ).2).1) lt sto ni ac bl ((tDrum d x σ).2).2) := hD
    exact zri E hK hP hD hS d_M_tend_65
  · refine zM_of "CoastLampsModel" rfl (by decide) (Nat.le_of_ble_eq_true rfl) ?_
    intro p e s m below meth c ls E hP hK hD hS hl
    obtain ⟨hx, hb, hml, ho, hts, hr, hlk⟩ := id E
    have hl : lv_has ls 3 [(0, .ref aM), (1, .int (nI i)), (2, .int x)] := hl
    refine lv_aload_n hx hb d_M_tend_0 rfl (lv_at hl 0 rfl) ?_
    refine zget (ci := 11) (fs := [.ref m1, .int (nI n), .ref m2, .ref m3, .ref m4, .ref m5, .ref m6, .long sto, .int ni, .int ac, .int bl, .ref m7, .int (nI σ.2.2.1)]) E hK hP 0 rfl zC_M 2 (by decide) kw_592 (Or.inl rfl) rfl d_M_tend_1 ?_
    refine lv_iload_n hx hb d_M_tend_4 rfl (lv_at hl 1 rfl) ?_
    refine va_iald hx hb hK hP 2 1 rfl rfl (vp_in_nI hi (by decide)) d_M_tend_5 ?_
    rw [nI_clamp (i31 hi)]
    rw [hkd]
    refine lv_tableIn (off := 53) (tgt := 59) hx hb d_M_tend_6 (by decide) (by decide) (by decide) (by decide) ?_
    refine lv_aload_n hx hb d_M_tend_59 rfl (lv_at hl 0 rfl) ?_
    refine lv_iload_n hx hb d_M_tend_60 rfl (lv_at hl 1 rfl) ?_
    refine lv_iload_n hx hb d_M_tend_61 rfl (lv_at hl 2 rfl) ?_
    refine zcV (As := [.int (nI i), .int x]) (rest := []) (ci := 11) E cy_M_tendDrum kw_758 ks_31 kw_756 (c_M_tendDrum l dC dI g1 g2 g3 g4 g5 g6 g7 A aM m1 m2 m3 m4 m5 m6 m7 d n kd ht tk so lt sto ni ac bl i hi σ x) hK hP hD hS 0 rfl zC_M.1 rfl rfl hl.1 rfl (Nat.le_of_ble_eq_true rfl) ⟨Nat.le_of_ble_eq_true rfl, Nat.le_of_ble_eq_true rfl⟩ d_M_tend_62 ⟨Nat.le_refl _, Nat.le_refl _⟩ (fun H locs hP hD hS => ?_)
    have hP : va_P (dC, dI) classes (wm g1 g2 g3 g4 g5 g6 g7 aM m1 m2 m3 m4 m5 m6 m7 d n kd ht tk (upd so i ((tDrum d x σ).2).1) lt sto ni ac bl ((tDrum d x σ).2).2) H := hP
    have hD : va_D A (wm g1 g2 g3 g4 g5 g6 g7 aM m1 m2 m3 m4 m5 m6 m7 d n kd ht tk (upd so i ((tDrum d x σ).2).1) lt sto ni ac bl ((tDrum d x σ).2).2) := hD
    exact zri E hK hP hD hS d_M_tend_65
  · refine zM_of "CoastLampsModel" rfl (by decide) (Nat.le_of_ble_eq_true rfl) ?_
    intro p e s m below meth c ls E hP hK hD hS hl
    obtain ⟨hx, hb, hml, ho, hts, hr, hlk⟩ := id E
    have hl : lv_has ls 3 [(0, .ref aM), (1, .int (nI i)), (2, .int x)] := hl
    refine lv_aload_n hx hb d_M_tend_0 rfl (lv_at hl 0 rfl) ?_
    refine zget (ci := 11) (fs := [.ref m1, .int (nI n), .ref m2, .ref m3, .ref m4, .ref m5, .ref m6, .long sto, .int ni, .int ac, .int bl, .ref m7, .int (nI σ.2.2.1)]) E hK hP 0 rfl zC_M 2 (by decide) kw_592 (Or.inl rfl) rfl d_M_tend_1 ?_
    refine lv_iload_n hx hb d_M_tend_4 rfl (lv_at hl 1 rfl) ?_
    refine va_iald hx hb hK hP 2 1 rfl rfl (vp_in_nI hi (by decide)) d_M_tend_5 ?_
    rw [nI_clamp (i31 hi)]
    rw [hkd]
    refine lv_tableIn (off := 67) (tgt := 73) hx hb d_M_tend_6 (by decide) (by decide) (by decide) (by decide) ?_
    refine lv_aload_n hx hb d_M_tend_73 rfl (lv_at hl 0 rfl) ?_
    refine lv_iload_n hx hb d_M_tend_74 rfl (lv_at hl 1 rfl) ?_
    refine lv_iload_n hx hb d_M_tend_75 rfl (lv_at hl 2 rfl) ?_
    refine zcV (As := [.int (nI i), .int x]) (rest := []) (ci := 11) E cy_M_tendLamp kw_754 ks_30 kw_752 (c_M_tendLamp l dC dI g1 g2 g3 g4 g5 g6 g7 A aM m1 m2 m3 m4 m5 m6 m7 d n kd ht tk so lt sto ni ac bl i hi σ x) hK hP hD hS 0 rfl zC_M.1 rfl rfl hl.1 rfl (Nat.le_of_ble_eq_true rfl) ⟨Nat.le_of_ble_eq_true rfl, Nat.le_of_ble_eq_true rfl⟩ d_M_tend_76 ⟨Nat.le_refl _, Nat.le_refl _⟩ (fun H locs hP hD hS => ?_)
    have hP : va_P (dC, dI) classes (wm g1 g2 g3 g4 g5 g6 g7 aM m1 m2 m3 m4 m5 m6 m7 d n kd ht tk (upd so i ((tLamp x σ).2).1) lt sto ni ac bl ((tLamp x σ).2).2) H := hP
    have hD : va_D A (wm g1 g2 g3 g4 g5 g6 g7 aM m1 m2 m3 m4 m5 m6 m7 d n kd ht tk (upd so i ((tLamp x σ).2).1) lt sto ni ac bl ((tLamp x σ).2).2) := hD
    exact zri E hK hP hD hS d_M_tend_79
  · refine zM_of "CoastLampsModel" rfl (by decide) (Nat.le_of_ble_eq_true rfl) ?_
    intro p e s m below meth c ls E hP hK hD hS hl
    obtain ⟨hx, hb, hml, ho, hts, hr, hlk⟩ := id E
    have hl : lv_has ls 3 [(0, .ref aM), (1, .int (nI i)), (2, .int x)] := hl
    refine lv_aload_n hx hb d_M_tend_0 rfl (lv_at hl 0 rfl) ?_
    refine zget (ci := 11) (fs := [.ref m1, .int (nI n), .ref m2, .ref m3, .ref m4, .ref m5, .ref m6, .long sto, .int ni, .int ac, .int bl, .ref m7, .int (nI σ.2.2.1)]) E hK hP 0 rfl zC_M 2 (by decide) kw_592 (Or.inl rfl) rfl d_M_tend_1 ?_
    refine lv_iload_n hx hb d_M_tend_4 rfl (lv_at hl 1 rfl) ?_
    refine va_iald hx hb hK hP 2 1 rfl rfl (vp_in_nI hi (by decide)) d_M_tend_5 ?_
    rw [nI_clamp (i31 hi)]
    rw [hkd]
    refine lv_tableIn (off := 67) (tgt := 73) hx hb d_M_tend_6 (by decide) (by decide) (by decide) (by decide) ?_
    refine lv_aload_n hx hb d_M_tend_73 rfl (lv_at hl 0 rfl) ?_
    refine lv_iload_n hx hb d_M_tend_74 rfl (lv_at hl 1 rfl) ?_
    refine lv_iload_n hx hb d_M_tend_75 rfl (lv_at hl 2 rfl) ?_
    refine zcV (As := [.int (nI i), .int x]) (rest := []) (ci := 11) E cy_M_tendLamp kw_754 ks_30 kw_752 (c_M_tendLamp l dC dI g1 g2 g3 g4 g5 g6 g7 A aM m1 m2 m3 m4 m5 m6 m7 d n kd ht tk so lt sto ni ac bl i hi σ x) hK hP hD hS 0 rfl zC_M.1 rfl rfl hl.1 rfl (Nat.le_of_ble_eq_true rfl) ⟨Nat.le_of_ble_eq_true rfl, Nat.le_of_ble_eq_true rfl⟩ d_M_tend_76 ⟨Nat.le_refl _, Nat.le_refl _⟩ (fun H locs hP hD hS => ?_)
    have hP : va_P (dC, dI) classes (wm g1 g2 g3 g4 g5 g6 g7 aM m1 m2 m3 m4 m5 m6 m7 d n kd ht tk (upd so i ((tLamp x σ).2).1) lt sto ni ac bl ((tLamp x σ).2).2) H := hP
    have hD : va_D A (wm g1 g2 g3 g4 g5 g6 g7 aM m1 m2 m3 m4 m5 m6 m7 d n kd ht tk (upd so i ((tLamp x σ).2).1) lt sto ni ac bl ((tLamp x σ).2).2) := hD
    exact zri E hK hP hD hS d_M_tend_79
  · refine zM_of "CoastLampsModel" rfl (by decide) (Nat.le_of_ble_eq_true rfl) ?_
    intro p e s m below meth c ls E hP hK hD hS hl
    obtain ⟨hx, hb, hml, ho, hts, hr, hlk⟩ := id E
    have hl : lv_has ls 3 [(0, .ref aM), (1, .int (nI i)), (2, .int x)] := hl
    refine lv_aload_n hx hb d_M_tend_0 rfl (lv_at hl 0 rfl) ?_
    refine zget (ci := 11) (fs := [.ref m1, .int (nI n), .ref m2, .ref m3, .ref m4, .ref m5, .ref m6, .long sto, .int ni, .int ac, .int bl, .ref m7, .int (nI σ.2.2.1)]) E hK hP 0 rfl zC_M 2 (by decide) kw_592 (Or.inl rfl) rfl d_M_tend_1 ?_
    refine lv_iload_n hx hb d_M_tend_4 rfl (lv_at hl 1 rfl) ?_
    refine va_iald hx hb hK hP 2 1 rfl rfl (vp_in_nI hi (by decide)) d_M_tend_5 ?_
    rw [nI_clamp (i31 hi)]
    rw [hkd]
    refine lv_tableIn (off := 60) (tgt := 66) hx hb d_M_tend_6 (by decide) (by decide) (by decide) (by decide) ?_
    refine lv_aload_n hx hb d_M_tend_66 rfl (lv_at hl 0 rfl) ?_
    refine lv_iload_n hx hb d_M_tend_67 rfl (lv_at hl 1 rfl) ?_
    refine lv_iload_n hx hb d_M_tend_68 rfl (lv_at hl 2 rfl) ?_
    refine zcV (As := [.int (nI i), .int x]) (rest := []) (ci := 11) E cy_M_tendBuoy kw_762 ks_32 kw_760 (c_M_tendBuoy l dC dI g1 g2 g3 g4 g5 g6 g7 A aM m1 m2 m3 m4 m5 m6 m7 d n kd ht tk so lt sto ni ac bl i hi σ x) hK hP hD hS 0 rfl zC_M.1 rfl rfl hl.1 rfl (Nat.le_of_ble_eq_true rfl) ⟨Nat.le_of_ble_eq_true rfl, Nat.le_of_ble_eq_true rfl⟩ d_M_tend_69 ⟨Nat.le_refl _, Nat.le_refl _⟩ (fun H locs hP hD hS => ?_)
    have hP : va_P (dC, dI) classes (wm g1 g2 g3 g4 g5 g6 g7 aM m1 m2 m3 m4 m5 m6 m7 d n kd ht tk (upd so i ((tBuoy d x σ).2).1) lt sto ni ac bl ((tBuoy d x σ).2).2) H := hP
    have hD : va_D A (wm g1 g2 g3 g4 g5 g6 g7 aM m1 m2 m3 m4 m5 m6 m7 d n kd ht tk (upd so i ((tBuoy d x σ).2).1) lt sto ni ac bl ((tBuoy d x σ).2).2) := hD
    exact zri E hK hP hD hS d_M_tend_72
  · refine zM_of "CoastLampsModel" rfl (by decide) (Nat.le_of_ble_eq_true rfl) ?_
    intro p e s m below meth c ls E hP hK hD hS hl
    obtain ⟨hx, hb, hml, ho, hts, hr, hlk⟩ := id E
    have hl : lv_has ls 3 [(0, .ref aM), (1, .int (nI i)), (2, .int x)] := hl
    refine lv_aload_n hx hb d_M_tend_0 rfl (lv_at hl 0 rfl) ?_
    refine zget (ci := 11) (fs := [.ref m1, .int (nI n), .ref m2, .ref m3, .ref m4, .ref m5, .ref m6, .long sto, .int ni, .int ac, .int bl, .ref m7, .int (nI σ.2.2.1)]) E hK hP 0 rfl zC_M 2 (by decide) kw_592 (Or.inl rfl) rfl d_M_tend_1 ?_
    refine lv_iload_n hx hb d_M_tend_4 rfl (lv_at hl 1 rfl) ?_
    refine va_iald hx hb hK hP 2 1 rfl rfl (vp_in_nI hi (by decide)) d_M_tend_5 ?_
    rw [nI_clamp (i31 hi)]
    rw [hkd]
    refine lv_tableIn (off := 60) (tgt := 66) hx hb d_M_tend_6 (by decide) (by decide) (by decide) (by decide) ?_
    refine lv_aload_n hx hb d_M_tend_66 rfl (lv_at hl 0 rfl) ?_
    refine lv_iload_n hx hb d_M_tend_67 rfl (lv_at hl 1 rfl) ?_
    refine lv_iload_n hx hb d_M_tend_68 rfl (lv_at hl 2 rfl) ?_
    refine zcV (As := [.int (nI i), .int x]) (rest := []) (ci := 11) E cy_M_tendBuoy kw_762 ks_32 kw_760 (c_M_tendBuoy l dC dI g1 g2 g3 g4 g5 g6 g7 A aM m1 m2 m3 m4 m5 m6 m7 d n kd ht tk so lt sto ni ac bl i hi σ x) hK hP hD hS 0 rfl zC_M.1 rfl rfl hl.1 rfl (Nat.le_of_ble_eq_true rfl) ⟨Nat.le_of_ble_eq_true rfl, Nat.le_of_ble_eq_true rfl⟩ d_M_tend_69 ⟨Nat.le_refl _, Nat.le_refl _⟩ (fun H locs hP hD hS => ?_)
    have hP : va_P (dC, dI) classes (wm g1 g2 g3 g4 g5 g6 g7 aM m1 m2 m3 m4 m5 m6 m7 d n kd ht tk (upd so i ((tBuoy d x σ).2).1) lt sto ni ac bl ((tBuoy d x σ).2).2) H := hP
    have hD : va_D A (wm g1 g2 g3 g4 g5 g6 g7 aM m1 m2 m3 m4 m5 m6 m7 d n kd ht tk (upd so i ((tBuoy d x σ).2).1) lt sto ni ac bl ((tBuoy d x σ).2).2) := hD
    exact zri E hK hP hD hS d_M_tend_72
set_option maxHeartbeats 1000000 in
set_option maxRecDepth 100000 in
theorem c_M_rank (l : Launch) (dC : Nat → ClassId) (dI : Nat → Nat → Nat) (g1 g2 g3 g4 g5 g6 g7 : ClassId) (A : Nat → Prop) (aM m1 m2 m3 m4 m5 m6 m7 : Nat) (d : Nat → Int32) (n : Nat) (kd ht tk so lt : Nat → Int32) (sto : Int64) (ni ac bl : Int32) (i : Nat) (hi : i < 60) (σ : zS) (k : Nat) (hk : k < 9) (hkd : kd i = nI (k + 1)) : zM l y_M_rank b_M_rank 2 (some (FieldType.int)) 4 84 [.ref aM, .int (nI i)] (dC, dI) (t7 g1 g2 g3 g4 g5 g6 g7) A (wm g1 g2 g3 g4 g5 g6 g7 aM m1 m2 m3 m4 m5 m6 m7 d n kd ht tk (upd so i σ.1) lt sto ni ac bl σ.2) (wm g1 g2 g3 g4 g5 g6 g7 aM m1 m2 m3 m4 m5 m6 m7 d n kd ht tk (upd so i (rankK k (ht i) (tk i) σ).2.1) lt sto ni ac bl (rankK k (ht i) (tk i) σ).2.2) (some (.int (rankK k (ht i) (tk i) σ).1)) := by
  rcases (show k = 0 ∨ k = 1 ∨ k = 2 ∨ k = 3 ∨ k = 4 ∨ k = 5 ∨ k = 6 ∨ k = 7 ∨ k = 8 by omega) with rfl | rfl | rfl | rfl | rfl | rfl | rfl | rfl | rfl
  · refine zM_of "CoastLampsModel" rfl (by decide) (Nat.le_of_ble_eq_true rfl) ?_
    intro p e s m below meth c ls E hP hK hD hS hl
    obtain ⟨hx, hb, hml, ho, hts, hr, hlk⟩ := id E
    have hl : lv_has ls 2 [(0, .ref aM), (1, .int (nI i))] := hl
    refine lv_aload_n hx hb d_M_rank_0 rfl (lv_at hl 0 rfl) ?_
    refine zget (ci := 11) (fs := [.ref m1, .int (nI n), .ref m2, .ref m3, .ref m4, .ref m5, .ref m6, .long sto, .int ni, .int ac, .int bl, .ref m7, .int (nI σ.2.2.1)]) E hK hP 0 rfl zC_M 2 (by decide) kw_592 (Or.inl rfl) rfl d_M_rank_1 ?_
    refine lv_iload_n hx hb d_M_rank_4 rfl (lv_at hl 1 rfl) ?_
    refine va_iald hx hb hK hP 2 1 rfl rfl (vp_in_nI hi (by decide)) d_M_rank_5 ?_
    rw [nI_clamp (i31 hi)]
    rw [hkd]
    refine lv_tableIn (off := 50) (tgt := 56) hx hb d_M_rank_6 (by decide) (by decide) (by decide) (by decide) ?_
    refine lv_aload_n hx hb d_M_rank_56 rfl (lv_at hl 0 rfl) ?_
    refine lv_iload_n hx hb d_M_rank_57 rfl (lv_at hl 1 rfl) ?_
    refine zcV (As := [.int (nI i)]) (rest := []) (ci := 11) E cy_M_rankOil kw_770 ks_34 kw_768 (c_M_rankOil l dC dI g1 g2 g3 g4 g5 g6 g7 A aM m1 m2 m3 m4 m5 m6 m7 d n kd ht tk so lt sto ni ac bl i hi σ) hK hP hD hS 0 rfl zC_M.1 rfl rfl hl.1 rfl (Nat.le_of_ble_eq_true rfl) ⟨Nat.le_of_ble_eq_true rfl, Nat.le_of_ble_eq_true rfl⟩ d_M_rank_58 ⟨Nat.le_refl _, Nat.le_refl _⟩ (fun H locs hP hD hS => ?_)
    have hP : va_P (dC, dI) classes (wm g1 g2 g3 g4 g5 g6 g7 aM m1 m2 m3 m4 m5 m6 m7 d n kd ht tk (upd so i ((kOil (ht i) σ).2).1) lt sto ni ac bl ((kOil (ht i) σ).2).2) H := hP
    have hD : va_D A (wm g1 g2 g3 g4 g5 g6 g7 aM m1 m2 m3 m4 m5 m6 m7 d n kd ht tk (upd so i ((kOil (ht i) σ).2).1) lt sto ni ac bl ((kOil (ht i) σ).2).2) := hD
    exact zri E hK hP hD hS d_M_rank_61
  · refine zM_of "CoastLampsModel" rfl (by decide) (Nat.le_of_ble_eq_true rfl) ?_
    intro p e s m below meth c ls E hP hK hD hS hl
    obtain ⟨hx, hb, hml, ho, hts, hr, hlk⟩ := id E
    have hl : lv_has ls 2 [(0, .ref aM), (1, .int (nI i))] := hl
    refine lv_aload_n hx hb d_M_rank_0 rfl (lv_at hl 0 rfl) ?_
    refine zget (ci := 11) (fs := [.ref m1, .int (nI n), .ref m2, .ref m3, .ref m4, .ref m5, .ref m6, .long sto, .int ni, .int ac, .int bl, .ref m7, .int (nI σ.2.2.1)]) E hK hP 0 rfl zC_M 2 (by decide) kw_592 (Or.inl rfl) rfl d_M_rank_1 ?_
    refine lv_iload_n hx hb d_M_rank_4 rfl (lv_at hl 1 rfl) ?_
    refine va_iald hx hb hK hP 2 1 rfl rfl (vp_in_nI hi (by decide)) d_M_rank_5 ?_
    rw [nI_clamp (i31 hi)]
    rw [hkd]
    refine lv_tableIn (off := 50) (tgt := 56) hx hb d_M_rank_6 (by decide) (by decide) (by decide) (by decide) ?_
    refine lv_aload_n hx hb d_M_rank_56 rfl (lv_at hl 0 rfl) ?_
    refine lv_iload_n hx hb d_M_rank_57 rfl (lv_at hl 1 rfl) ?_
    refine zcV (As := [.int (nI i)]) (rest := []) (ci := 11) E cy_M_rankOil kw_770 ks_34 kw_768 (c_M_rankOil l dC dI g1 g2 g3 g4 g5 g6 g7 A aM m1 m2 m3 m4 m5 m6 m7 d n kd ht tk so lt sto ni ac bl i hi σ) hK hP hD hS 0 rfl zC_M.1 rfl rfl hl.1 rfl (Nat.le_of_ble_eq_true rfl) ⟨Nat.le_of_ble_eq_true rfl, Nat.le_of_ble_eq_true rfl⟩ d_M_rank_58 ⟨Nat.le_refl _, Nat.le_refl _⟩ (fun H locs hP hD hS => ?_)
    have hP : va_P (dC, dI) classes (wm g1 g2 g3 g4 g5 g6 g7 aM m1 m2 m3 m4 m5 m6 m7 d n kd ht tk (upd so i ((kOil (ht i) σ).2).1) lt sto ni ac bl ((kOil (ht i) σ).2).2) H := hP
    have hD : va_D A (wm g1 g2 g3 g4 g5 g6 g7 aM m1 m2 m3 m4 m5 m6 m7 d n kd ht tk (upd so i ((kOil (ht i) σ).2).1) lt sto ni ac bl ((kOil (ht i) σ).2).2) := hD
    exact zri E hK hP hD hS d_M_rank_61
  · refine zM_of "CoastLampsModel" rfl (by decide) (Nat.le_of_ble_eq_true rfl) ?_
    intro p e s m below meth c ls E hP hK hD hS hl
    obtain ⟨hx, hb, hml, ho, hts, hr, hlk⟩ := id E
    have hl : lv_has ls 2 [(0, .ref aM), (1, .int (nI i))] := hl
    refine lv_aload_n hx hb d_M_rank_0 rfl (lv_at hl 0 rfl) ?_
    refine zget (ci := 11) (fs := [.ref m1, .int (nI n), .ref m2, .ref m3, .ref m4, .ref m5, .ref m6, .long sto, .int ni, .int ac, .int bl, .ref m7, .int (nI σ.2.2.1)]) E hK hP 0 rfl zC_M 2 (by decide) kw_592 (Or.inl rfl) rfl d_M_rank_1 ?_
    refine lv_iload_n hx hb d_M_rank_4 rfl (lv_at hl 1 rfl) ?_
    refine va_iald hx hb hK hP 2 1 rfl rfl (vp_in_nI hi (by decide)) d_M_rank_5 ?_
    rw [nI_clamp (i31 hi)]
    rw [hkd]
    refine lv_tableIn (off := 50) (tgt := 56) hx hb d_M_rank_6 (by decide) (by decide) (by decide) (by decide) ?_
    refine lv_aload_n hx hb d_M_rank_56 rfl (lv_at hl 0 rfl) ?_
    refine lv_iload_n hx hb d_M_rank_57 rfl (lv_at hl 1 rfl) ?_
    refine zcV (As := [.int (nI i)]) (rest := []) (ci := 11) E cy_M_rankOil kw_770 ks_34 kw_768 (c_M_rankOil l dC dI g1 g2 g3 g4 g5 g6 g7 A aM m1 m2 m3 m4 m5 m6 m7 d n kd ht tk so lt sto ni ac bl i hi σ) hK hP hD hS 0 rfl zC_M.1 rfl rfl hl.1 rfl (Nat.le_of_ble_eq_true rfl) ⟨Nat.le_of_ble_eq_true rfl, Nat.le_of_ble_eq_true rfl⟩ d_M_rank_58 ⟨Nat.le_refl _, Nat.le_refl _⟩ (fun H locs hP hD hS => ?_)
    have hP : va_P (dC, dI) classes (wm g1 g2 g3 g4 g5 g6 g7 aM m1 m2 m3 m4 m5 m6 m7 d n kd ht tk (upd so i ((kOil (ht i) σ).2).1) lt sto ni ac bl ((kOil (ht i) σ).2).2) H := hP
    have hD : va_D A (wm g1 g2 g3 g4 g5 g6 g7 aM m1 m2 m3 m4 m5 m6 m7 d n kd ht tk (upd so i ((kOil (ht i) σ).2).1) lt sto ni ac bl ((kOil (ht i) σ).2).2) := hD
    exact zri E hK hP hD hS d_M_rank_61
  · refine zM_of "CoastLampsModel" rfl (by decide) (Nat.le_of_ble_eq_true rfl) ?_
    intro p e s m below meth c ls E hP hK hD hS hl
    obtain ⟨hx, hb, hml, ho, hts, hr, hlk⟩ := id E
    have hl : lv_has ls 2 [(0, .ref aM), (1, .int (nI i))] := hl
    refine lv_aload_n hx hb d_M_rank_0 rfl (lv_at hl 0 rfl) ?_
    refine zget (ci := 11) (fs := [.ref m1, .int (nI n), .ref m2, .ref m3, .ref m4, .ref m5, .ref m6, .long sto, .int ni, .int ac, .int bl, .ref m7, .int (nI σ.2.2.1)]) E hK hP 0 rfl zC_M 2 (by decide) kw_592 (Or.inl rfl) rfl d_M_rank_1 ?_
    refine lv_iload_n hx hb d_M_rank_4 rfl (lv_at hl 1 rfl) ?_
    refine va_iald hx hb hK hP 2 1 rfl rfl (vp_in_nI hi (by decide)) d_M_rank_5 ?_
    rw [nI_clamp (i31 hi)]
    rw [hkd]
    refine lv_tableIn (off := 56) (tgt := 62) hx hb d_M_rank_6 (by decide) (by decide) (by decide) (by decide) ?_
    refine lv_aload_n hx hb d_M_rank_62 rfl (lv_at hl 0 rfl) ?_
    refine lv_iload_n hx hb d_M_rank_63 rfl (lv_at hl 1 rfl) ?_
    refine zcV (As := [.int (nI i)]) (rest := []) (ci := 11) E cy_M_rankDrum kw_778 ks_36 kw_776 (c_M_rankDrum l dC dI g1 g2 g3 g4 g5 g6 g7 A aM m1 m2 m3 m4 m5 m6 m7 d n kd ht tk so lt sto ni ac bl i hi σ) hK hP hD hS 0 rfl zC_M.1 rfl rfl hl.1 rfl (Nat.le_of_ble_eq_true rfl) ⟨Nat.le_of_ble_eq_true rfl, Nat.le_of_ble_eq_true rfl⟩ d_M_rank_64 ⟨Nat.le_refl _, Nat.le_refl _⟩ (fun H locs hP hD hS => ?_)
    have hP : va_P (dC, dI) classes (wm g1 g2 g3 g4 g5 g6 g7 aM m1 m2 m3 m4 m5 m6 m7 d n kd ht tk (upd so i ((kDrum (ht i) σ).2).1) lt sto ni ac bl ((kDrum (ht i) σ).2).2) H := hP
    have hD : va_D A (wm g1 g2 g3 g4 g5 g6 g7 aM m1 m2 m3 m4 m5 m6 m7 d n kd ht tk (upd so i ((kDrum (ht i) σ).2).1) lt sto ni ac bl ((kDrum (ht i) σ).2).2) := hD
    exact zri E hK hP hD hS d_M_rank_67
  · refine zM_of "CoastLampsModel" rfl (by decide) (Nat.le_of_ble_eq_true rfl) ?_
    intro p e s m below meth c ls E hP hK hD hS hl
    obtain ⟨hx, hb, hml, ho, hts, hr, hlk⟩ := id E
    have hl : lv_has ls 2 [(0, .ref aM), (1, .int (nI i))] := hl
    refine lv_aload_n hx hb d_M_rank_0 rfl (lv_at hl 0 rfl) ?_
    refine zget (ci := 11) (fs := [.ref m1, .int (nI n), .ref m2, .ref m3, .ref m4, .ref m5, .ref m6, .long sto, .int ni, .int ac, .int bl, .ref m7, .int (nI σ.2.2.1)]) E hK hP 0 rfl zC_M 2 (by decide) kw_592 (Or.inl rfl) rfl d_M_rank_1 ?_
    refine lv_iload_n hx hb d_M_rank_4 rfl (lv_at hl 1 rfl) ?_
    refine va_iald hx hb hK hP 2 1 rfl rfl (vp_in_nI hi (by decide)) d_M_rank_5 ?_
    rw [nI_clamp (i31 hi)]
    rw [hkd]
    refine lv_tableIn (off := 56) (tgt := 62) hx hb d_M_rank_6 (by decide) (by decide) (by decide) (by decide) ?_
    refine lv_aload_n hx hb d_M_rank_62 rfl (lv_at hl 0 rfl) ?_
    refine lv_iload_n hx hb d_M_rank_63 rfl (lv_at hl 1 rfl) ?_
    refine zcV (As := [.int (nI i)]) (rest := []) (ci := 11) E cy_M_rankDrum kw_778 ks_36 kw_776 (c_M_rankDrum l dC dI g1 g2 g3 g4 g5 g6 g7 A aM m1 m2 m3 m4 m5 m6 m7 d n kd ht tk so lt sto ni ac bl i hi σ) hK hP hD hS 0 rfl zC_M.1 rfl rfl hl.1 rfl (Nat.le_of_ble_eq_true rfl) ⟨Nat.le_of_ble_eq_true rfl, Nat.le_of_ble_eq_true rfl⟩ d_M_rank_64 ⟨Nat.le_refl _, Nat.le_refl _⟩ (fun H locs hP hD hS => ?_)
    have hP : va_P (dC, dI) classes (wm g1 g2 g3 g4 g5 g6 g7 aM m1 m2 m3 m4 m5 m6 m7 d n kd ht tk (upd so i ((kDrum (ht i) σ).2).1) lt sto ni ac bl ((kDrum (ht i) σ).2).2) H := hP
    have hD : va_D A (wm g1 g2 g3 g4 g5 g6 g7 aM m1 m2 m3 m4 m5 m6 m7 d n kd ht tk (upd so i ((kDrum (ht i) σ).2).1) lt sto ni ac bl ((kDrum (ht i) σ).2).2) := hD
    exact zri E hK hP hD hS d_M_rank_67
  · refine zM_of "CoastLampsModel" rfl (by decide) (Nat.le_of_ble_eq_true rfl) ?_
    intro p e s m below meth c ls E hP hK hD hS hl
    obtain ⟨hx, hb, hml, ho, hts, hr, hlk⟩ := id E
    have hl : lv_has ls 2 [(0, .ref aM), (1, .int (nI i))] := hl
    refine lv_aload_n hx hb d_M_rank_0 rfl (lv_at hl 0 rfl) ?_
    refine zget (ci := 11) (fs := [.ref m1, .int (nI n), .ref m2, .ref m3, .ref m4, .ref m5, .ref m6, .long sto, .int ni, .int ac, .int bl, .ref m7, .int (nI σ.2.2.1)]) E hK hP 0 rfl zC_M 2 (by decide) kw_592 (Or.inl rfl) rfl d_M_rank_1 ?_
    refine lv_iload_n hx hb d_M_rank_4 rfl (lv_at hl 1 rfl) ?_
    refine va_iald hx hb hK hP 2 1 rfl rfl (vp_in_nI hi (by decide)) d_M_rank_5 ?_
    rw [nI_clamp (i31 hi)]
    rw [hkd]
    refine lv_tableIn (off := 62) (tgt := 68) hx hb d_M_rank_6 (by decide) (by decide) (by decide) (by decide) ?_
    refine lv_aload_n hx hb d_M_rank_68 rfl (lv_at hl 0 rfl) ?_
    refine lv_iload_n hx hb d_M_rank_69 rfl (lv_at hl 1 rfl) ?_
    refine zcV (As := [.int (nI i)]) (rest := []) (ci := 11) E cy_M_rankLamp kw_774 ks_35 kw_772 (c_M_rankLamp l dC dI g1 g2 g3 g4 g5 g6 g7 A aM m1 m2 m3 m4 m5 m6 m7 d n kd ht tk so lt sto ni ac bl i hi σ) hK hP hD hS 0 rfl zC_M.1 rfl rfl hl.1 rfl (Nat.le_of_ble_eq_true rfl) ⟨Nat.le_of_ble_eq_true rfl, Nat.le_of_ble_eq_true rfl⟩ d_M_rank_70 ⟨Nat.le_refl _, Nat.le_refl _⟩ (fun H locs hP hD hS => ?_)
    have hP : va_P (dC, dI) classes (wm g1 g2 g3 g4 g5 g6 g7 aM m1 m2 m3 m4 m5 m6 m7 d n kd ht tk (upd so i ((kLamp (ht i) σ).2).1) lt sto ni ac bl ((kLamp (ht i) σ).2).2) H := hP
    have hD : va_D A (wm g1 g2 g3 g4 g5 g6 g7 aM m1 m2 m3 m4 m5 m6 m7 d n kd ht tk (upd so i ((kLamp (ht i) σ).2).1) lt sto ni ac bl ((kLamp (ht i) σ).2).2) := hD
    exact zri E hK hP hD hS d_M_rank_73
  · refine zM_of "CoastLampsModel" rfl (by decide) (Nat.le_of_ble_eq_true rfl) ?_
    intro p e s m below meth c ls E hP hK hD hS hl
    obtain ⟨hx, hb, hml, ho, hts, hr, hlk⟩ := id E
    have hl : lv_has ls 2 [(0, .ref aM), (1, .int (nI i))] := hl
    refine lv_aload_n hx hb d_M_rank_0 rfl (lv_at hl 0 rfl) ?_
    refine zget (ci := 11) (fs := [.ref m1, .int (nI n), .ref m2, .ref m3, .ref m4, .ref m5, .ref m6, .long sto, .int ni, .int ac, .int bl, .ref m7, .int (nI σ.2.2.1)]) E hK hP 0 rfl zC_M 2 (by decide) kw_592 (Or.inl rfl) rfl d_M_rank_1 ?_
    refine lv_iload_n hx hb d_M_rank_4 rfl (lv_at hl 1 rfl) ?_
    refine va_iald hx hb hK hP 2 1 rfl rfl (vp_in_nI hi (by decide)) d_M_rank_5 ?_
    rw [nI_clamp (i31 hi)]
    rw [hkd]
    refine lv_tableIn (off := 74) (tgt := 80) hx hb d_M_rank_6 (by decide) (by decide) (by decide) (by decide) ?_
    refine lv_aload_n hx hb d_M_rank_80 rfl (lv_at hl 0 rfl) ?_
    refine lv_iload_n hx hb d_M_rank_81 rfl (lv_at hl 1 rfl) ?_
    refine zcV (As := [.int (nI i)]) (rest := []) (ci := 11) E cy_M_rankFlare kw_786 ks_38 kw_784 (c_M_rankFlare l dC dI g1 g2 g3 g4 g5 g6 g7 A aM m1 m2 m3 m4 m5 m6 m7 d n kd ht tk so lt sto ni ac bl i hi σ) hK hP hD hS 0 rfl zC_M.1 rfl rfl hl.1 rfl (Nat.le_of_ble_eq_true rfl) ⟨Nat.le_of_ble_eq_true rfl, Nat.le_of_ble_eq_true rfl⟩ d_M_rank_82 ⟨Nat.le_refl _, Nat.le_refl _⟩ (fun H locs hP hD hS => ?_)
    have hP : va_P (dC, dI) classes (wm g1 g2 g3 g4 g5 g6 g7 aM m1 m2 m3 m4 m5 m6 m7 d n kd ht tk (upd so i ((kFlare (ht i) σ).2).1) lt sto ni ac bl ((kFlare (ht i) σ).2).2) H := hP
    have hD : va_D A (wm g1 g2 g3 g4 g5 g6 g7 aM m1 m2 m3 m4 m5 m6 m7 d n kd ht tk (upd so i ((kFlare (ht i) σ).2).1) lt sto ni ac bl ((kFlare (ht i) σ).2).2) := hD
    exact zri E hK hP hD hS d_M_rank_85
  · refine zM_of "CoastLampsModel" rfl (by decide) (Nat.le_of_ble_eq_true rfl) ?_
    intro p e s m below meth c ls E hP hK hD hS hl
    obtain ⟨hx, hb, hml, ho, hts, hr, hlk⟩ := id E
    have hl : lv_has ls 2 [(0, .ref aM), (1, .int (nI i))] := hl
    refine lv_aload_n hx hb d_M_rank_0 rfl (lv_at hl 0 rfl) ?_
    refine zget (ci := 11) (fs := [.ref m1, .int (nI n), .ref m2, .ref m3, .ref m4, .ref m5, .ref m6, .long sto, .int ni, .int ac, .int bl, .ref m7, .int (nI σ.2.2.1)]) E hK hP 0 rfl zC_M 2 (by decide) kw_592 (Or.inl rfl) rfl d_M_rank_1 ?_
    refine lv_iload_n hx hb d_M_rank_4 rfl (lv_at hl 1 rfl) ?_
    refine va_iald hx hb hK hP 2 1 rfl rfl (vp_in_nI hi (by decide)) d_M_rank_5 ?_
    rw [nI_clamp (i31 hi)]
    rw [hkd]
    refine lv_tableIn (off := 74) (tgt := 80) hx hb d_M_rank_6 (by decide) (by decide) (by decide) (by decide) ?_
    refine lv_aload_n hx hb d_M_rank_80 rfl (lv_at hl 0 rfl) ?_
    refine lv_iload_n hx hb d_M_rank_81 rfl (lv_at hl 1 rfl) ?_
    refine zcV (As := [.int (nI i)]) (rest := []) (ci := 11) E cy_M_rankFlare kw_786 ks_38 kw_784 (c_M_rankFlare l dC dI g1 g2 g3 g4 g5 g6 g7 A aM m1 m2 m3 m4 m5 m6 m7 d n kd ht tk so lt sto ni ac bl i hi σ) hK hP hD hS 0 rfl zC_M.1 rfl rfl hl.1 rfl (Nat.le_of_ble_eq_true rfl) ⟨Nat.le_of_ble_eq_true rfl, Nat.le_of_ble_eq_true rfl⟩ d_M_rank_82 ⟨Nat.le_refl _, Nat.le_refl _⟩ (fun H locs hP hD hS => ?_)
    have hP : va_P (dC, dI) classes (wm g1 g2 g3 g4 g5 g6 g7 aM m1 m2 m3 m4 m5 m6 m7 d n kd ht tk (upd so i ((kFlare (ht i) σ).2).1) lt sto ni ac bl ((kFlare (ht i) σ).2).2) H := hP
    have hD : va_D A (wm g1 g2 g3 g4 g5 g6 g7 aM m1 m2 m3 m4 m5 m6 m7 d n kd ht tk (upd so i ((kFlare (ht i) σ).2).1) lt sto ni ac bl ((kFlare (ht i) σ).2).2) := hD
    exact zri E hK hP hD hS d_M_rank_85
  · refine zM_of "CoastLampsModel" rfl (by decide) (Nat.le_of_ble_eq_true rfl) ?_
    intro p e s m below meth c ls E hP hK hD hS hl
    obtain ⟨hx, hb, hml, ho, hts, hr, hlk⟩ := id E
    have hl : lv_has ls 2 [(0, .ref aM), (1, .int (nI i))] := hl
    refine lv_aload_n hx hb d_M_rank_0 rfl (lv_at hl 0 rfl) ?_
    refine zget (ci := 11) (fs := [.ref m1, .int (nI n), .ref m2, .ref m3, .ref m4, .ref m5, .ref m6, .long sto, .int ni, .int ac, .int bl, .ref m7, .int (nI σ.2.2.1)]) E hK hP 0 rfl zC_M 2 (by decide) kw_592 (Or.inl rfl) rfl d_M_rank_1 ?_
    refine lv_iload_n hx hb d_M_rank_4 rfl (lv_at hl 1 rfl) ?_
    refine va_iald hx hb hK hP 2 1 rfl rfl (vp_in_nI hi (by decide)) d_M_rank_5 ?_
    rw [nI_clamp (i31 hi)]
    rw [hkd]
    refine lv_tableIn (off := 68) (tgt := 74) hx hb d_M_rank_6 (by decide) (by decide) (by decide) (by decide) ?_
    refine lv_aload_n hx hb d_M_rank_74 rfl (lv_at hl 0 rfl) ?_
    refine lv_iload_n hx hb d_M_rank_75 rfl (lv_at hl 1 rfl) ?_
    refine zcV (As := [.int (nI i)]) (rest := []) (ci := 11) E cy_M_rankOuter kw_782 ks_37 kw_780 (c_M_rankOuter l dC dI g1 g2 g3 g4 g5 g6 g7 A aM m1 m2 m3 m4 m5 m6 m7 d n kd ht tk so lt sto ni ac bl i hi σ) hK hP hD hS 0 rfl zC_M.1 rfl rfl hl.1 rfl (Nat.le_of_ble_eq_true rfl) ⟨Nat.le_of_ble_eq_true rfl, Nat.le_of_ble_eq_true rfl⟩ d_M_rank_76 ⟨Nat.le_refl _, Nat.le_refl _⟩ (fun H locs hP hD hS => ?_)
    have hP : va_P (dC, dI) classes (wm g1 g2 g3 g4 g5 g6 g7 aM m1 m2 m3 m4 m5 m6 m7 d n kd ht tk (upd so i ((kOuter (ht i) (tk i) σ).2).1) lt sto ni ac bl ((kOuter (ht i) (tk i) σ).2).2) H := hP
    have hD : va_D A (wm g1 g2 g3 g4 g5 g6 g7 aM m1 m2 m3 m4 m5 m6 m7 d n kd ht tk (upd so i ((kOuter (ht i) (tk i) σ).2).1) lt sto ni ac bl ((kOuter (ht i) (tk i) σ).2).2) := hD
    exact zri E hK hP hD hS d_M_rank_79
set_option maxHeartbeats 1000000 in
set_option maxRecDepth 100000 in
theorem c_M_toneOuter (l : Launch) (dC : Nat → ClassId) (dI : Nat → Nat → Nat) (g1 g2 g3 g4 g5 g6 g7 : ClassId) (A : Nat → Prop) (aM m1 m2 m3 m4 m5 m6 m7 : Nat) (d : Nat → Int32) (n : Nat) (kd ht tk so lt : Nat → Int32) (sto : Int64) (ni ac bl : Int32) (i : Nat) (hi : i < 60) (σ : zS) (hkd : kd i = nI (8 + 1)) : zM l y_M_toneOuter b_M_toneOuter 3 (some (FieldType.int)) 5 105 [.ref aM, .int (nI i)] (dC, dI) (t7 g1 g2 g3 g4 g5 g6 g7) A (wm g1 g2 g3 g4 g5 g6 g7 aM m1 m2 m3 m4 m5 m6 m7 d n kd ht tk (upd so i σ.1) lt sto ni ac bl σ.2) (wm g1 g2 g3 g4 g5 g6 g7 aM m1 m2 m3 m4 m5 m6 m7 d n kd ht tk (upd so i (oOuter (ht i) (tk i) σ).2.1) lt sto ni ac bl (oOuter (ht i) (tk i) σ).2.2) (some (.int (oOuter (ht i) (tk i) σ).1)) := by
  rw [show oOuter (ht i) (tk i) σ = ((oFlare (σ.1, tb 96 σ.2)).1 + (rankK 8 (ht i) (tk i) (oFlare (σ.1, tb 96 σ.2)).2).1, (rankK 8 (ht i) (tk i) (oFlare (σ.1, tb 96 σ.2)).2).2) from rfl]
  dsimp only
  refine zM_of "CoastLampsModel" rfl (by decide) (Nat.le_of_ble_eq_true rfl) ?_
  intro p e s m below meth c ls E hP hK hD hS hl
  obtain ⟨hx, hb, hml, ho, hts, hr, hlk⟩ := id E
  have hl : lv_has ls 3 [(0, .ref aM), (1, .int (nI i))] := hl
  refine lv_aload_n hx hb d_M_toneOuter_0 rfl (lv_at hl 0 rfl) ?_
  refine lv_bipush (v := 96) hx hb d_M_toneOuter_1 (by decide) ?_
  refine zcV (As := [.int 96]) (rest := []) (ci := 11) E cy_M_begins kw_670 ks_9 kw_668 (c_M_begins l dC dI g1 g2 g3 g4 g5 g6 g7 A aM m1 m2 m3 m4 m5 m6 m7 d n kd ht tk (upd so i σ.1) lt sto ni ac bl σ.2 96) hK hP hD hS 0 rfl zC_M.1 rfl rfl hl.1 rfl (Nat.le_of_ble_eq_true rfl) ⟨Nat.le_of_ble_eq_true rfl, Nat.le_of_ble_eq_true rfl⟩ d_M_toneOuter_3 ⟨Nat.le_refl _, Nat.le_refl _⟩ (fun H locs hP hD hS => ?_)
  have hP : va_P (dC, dI) classes (wm g1 g2 g3 g4 g5 g6 g7 aM m1 m2 m3 m4 m5 m6 m7 d n kd ht tk (upd so i (σ.1, tb 96 σ.2).1) lt sto ni ac bl (σ.1, tb 96 σ.2).2) H := hP
  have hD : va_D A (wm g1 g2 g3 g4 g5 g6 g7 aM m1 m2 m3 m4 m5 m6 m7 d n kd ht tk (upd so i (σ.1, tb 96 σ.2).1) lt sto ni ac bl (σ.1, tb 96 σ.2).2) := hD
  refine lv_aload_n hx hb d_M_toneOuter_6 rfl (lv_at hl 0 rfl) ?_
  refine zcV (As := []) (rest := []) (ci := 11) E cy_M_toneFlare kw_806 ks_43 kw_804 (c_M_toneFlare l dC dI g1 g2 g3 g4 g5 g6 g7 A aM m1 m2 m3 m4 m5 m6 m7 d n kd ht tk so lt sto ni ac bl i hi (σ.1, tb 96 σ.2)) hK hP hD hS 0 rfl zC_M.1 rfl rfl hl.1 rfl (Nat.le_of_ble_eq_true rfl) ⟨Nat.le_of_ble_eq_true rfl, Nat.le_of_ble_eq_true rfl⟩ d_M_toneOuter_7 ⟨Nat.le_refl _, Nat.le_refl _⟩ (fun H locs hP hD hS => ?_)
  have hP : va_P (dC, dI) classes (wm g1 g2 g3 g4 g5 g6 g7 aM m1 m2 m3 m4 m5 m6 m7 d n kd ht tk (upd so i ((oFlare (σ.1, tb 96 σ.2)).2).1) lt sto ni ac bl ((oFlare (σ.1, tb 96 σ.2)).2).2) H := hP
  have hD : va_D A (wm g1 g2 g3 g4 g5 g6 g7 aM m1 m2 m3 m4 m5 m6 m7 d n kd ht tk (upd so i ((oFlare (σ.1, tb 96 σ.2)).2).1) lt sto ni ac bl ((oFlare (σ.1, tb 96 σ.2)).2).2) := hD
  refine lv_istore_n (lv' := [(2, .int ((oFlare (σ.1, tb 96 σ.2)).1)), (0, .ref aM), (1, .int (nI i))]) hx hb d_M_toneOuter_10 rfl hl (by decide) rfl (fun ls hl => ?_)
  refine lv_iload_n hx hb d_M_toneOuter_11 rfl (lv_at hl 0 rfl) ?_
  refine lv_aload_n hx hb d_M_toneOuter_12 rfl (lv_at hl 1 rfl) ?_
  refine lv_iload_n hx hb d_M_toneOuter_13 rfl (lv_at hl 2 rfl) ?_
  refine zcV (As := [.int (nI i)]) (rest := [.int ((oFlare (σ.1, tb 96 σ.2)).1)]) (ci := 11) E cy_M_rank kw_766 ks_33 kw_764 (c_M_rank l dC dI g1 g2 g3 g4 g5 g6 g7 A aM m1 m2 m3 m4 m5 m6 m7 d n kd ht tk so lt sto ni ac bl i hi ((oFlare (σ.1, tb 96 σ.2)).2) 8 (by decide) hkd) hK hP hD hS 0 rfl zC_M.1 rfl rfl hl.1 rfl (Nat.le_of_ble_eq_true rfl) ⟨Nat.le_of_ble_eq_true rfl, Nat.le_of_ble_eq_true rfl⟩ d_M_toneOuter_14 ⟨Nat.le_refl _, Nat.le_refl _⟩ (fun H locs hP hD hS => ?_)
  have hP : va_P (dC, dI) classes (wm g1 g2 g3 g4 g5 g6 g7 aM m1 m2 m3 m4 m5 m6 m7 d n kd ht tk (upd so i ((rankK 8 (ht i) (tk i) ((oFlare (σ.1, tb 96 σ.2)).2)).2).1) lt sto ni ac bl ((rankK 8 (ht i) (tk i) ((oFlare (σ.1, tb 96 σ.2)).2)).2).2) H := hP
  have hD : va_D A (wm g1 g2 g3 g4 g5 g6 g7 aM m1 m2 m3 m4 m5 m6 m7 d n kd ht tk (upd so i ((rankK 8 (ht i) (tk i) ((oFlare (σ.1, tb 96 σ.2)).2)).2).1) lt sto ni ac bl ((rankK 8 (ht i) (tk i) ((oFlare (σ.1, tb 96 σ.2)).2)).2).2) := hD
  refine lv_iadd hx hb d_M_toneOuter_17 ?_
  exact zri E hK hP hD hS d_M_toneOuter_18
set_option maxHeartbeats 1000000 in
set_option maxRecDepth 100000 in
theorem c_M_tone (l : Launch) (dC : Nat → ClassId) (dI : Nat → Nat → Nat) (g1 g2 g3 g4 g5 g6 g7 : ClassId) (A : Nat → Prop) (aM m1 m2 m3 m4 m5 m6 m7 : Nat) (d : Nat → Int32) (n : Nat) (kd ht tk so lt : Nat → Int32) (sto : Int64) (ni ac bl : Int32) (i : Nat) (hi : i < 60) (σ : zS) (k : Nat) (hk : k < 9) (hkd : kd i = nI (k + 1)) (hh : hornedK k = true) : zM l y_M_tone b_M_tone 2 (some (FieldType.int)) 6 127 [.ref aM, .int (nI i)] (dC, dI) (t7 g1 g2 g3 g4 g5 g6 g7) A (wm g1 g2 g3 g4 g5 g6 g7 aM m1 m2 m3 m4 m5 m6 m7 d n kd ht tk (upd so i σ.1) lt sto ni ac bl σ.2) (wm g1 g2 g3 g4 g5 g6 g7 aM m1 m2 m3 m4 m5 m6 m7 d n kd ht tk (upd so i (toneK k d (ht i) (tk i) σ).2.1) lt sto ni ac bl (toneK k d (ht i) (tk i) σ).2.2) (some (.int (toneK k d (ht i) (tk i) σ).1)) := by
  rcases (show k = 0 ∨ k = 1 ∨ k = 2 ∨ k = 3 ∨ k = 4 ∨ k = 5 ∨ k = 6 ∨ k = 7 ∨ k = 8 by omega) with rfl | rfl | rfl | rfl | rfl | rfl | rfl | rfl | rfl
  · exact absurd hh (by decide)
  · exact absurd hh (by decide)
  · refine zM_of "CoastLampsModel" rfl (by decide) (Nat.le_of_ble_eq_true rfl) ?_
    intro p e s m below meth c ls E hP hK hD hS hl
    obtain ⟨hx, hb, hml, ho, hts, hr, hlk⟩ := id E
    have hl : lv_has ls 2 [(0, .ref aM), (1, .int (nI i))] := hl
    refine lv_aload_n hx hb d_M_tone_0 rfl (lv_at hl 0 rfl) ?_
    refine zget (ci := 11) (fs := [.ref m1, .int (nI n), .ref m2, .ref m3, .ref m4, .ref m5, .ref m6, .long sto, .int ni, .int ac, .int bl, .ref m7, .int (nI σ.2.2.1)]) E hK hP 0 rfl zC_M 2 (by decide) kw_592 (Or.inl rfl) rfl d_M_tone_1 ?_
    refine lv_iload_n hx hb d_M_tone_4 rfl (lv_at hl 1 rfl) ?_
    refine va_iald hx hb hK hP 2 1 rfl rfl (vp_in_nI hi (by decide)) d_M_tone_5 ?_
    rw [nI_clamp (i31 hi)]
    rw [hkd]
    refine lv_tableOut (tgt := 60) hx hb d_M_tone_6 (by decide) (by decide) ?_
    refine lv_aload_n hx hb d_M_tone_60 rfl (lv_at hl 0 rfl) ?_
    refine zcV (As := []) (rest := []) (ci := 11) E cy_M_toneOil kw_802 ks_42 kw_800 (c_M_toneOil l dC dI g1 g2 g3 g4 g5 g6 g7 A aM m1 m2 m3 m4 m5 m6 m7 d n kd ht tk so lt sto ni ac bl i hi σ) hK hP hD hS 0 rfl zC_M.1 rfl rfl hl.1 rfl (Nat.le_of_ble_eq_true rfl) ⟨Nat.le_of_ble_eq_true rfl, Nat.le_of_ble_eq_true rfl⟩ d_M_tone_61 ⟨Nat.le_refl _, Nat.le_refl _⟩ (fun H locs hP hD hS => ?_)
    have hP : va_P (dC, dI) classes (wm g1 g2 g3 g4 g5 g6 g7 aM m1 m2 m3 m4 m5 m6 m7 d n kd ht tk (upd so i ((oOil σ).2).1) lt sto ni ac bl ((oOil σ).2).2) H := hP
    have hD : va_D A (wm g1 g2 g3 g4 g5 g6 g7 aM m1 m2 m3 m4 m5 m6 m7 d n kd ht tk (upd so i ((oOil σ).2).1) lt sto ni ac bl ((oOil σ).2).2) := hD
    exact zri E hK hP hD hS d_M_tone_64
  · refine zM_of "CoastLampsModel" rfl (by decide) (Nat.le_of_ble_eq_true rfl) ?_
    intro p e s m below meth c ls E hP hK hD hS hl
    obtain ⟨hx, hb, hml, ho, hts, hr, hlk⟩ := id E
    have hl : lv_has ls 2 [(0, .ref aM), (1, .int (nI i))] := hl
    refine lv_aload_n hx hb d_M_tone_0 rfl (lv_at hl 0 rfl) ?_
    refine zget (ci := 11) (fs := [.ref m1, .int (nI n), .ref m2, .ref m3, .ref m4, .ref m5, .ref m6, .long sto, .int ni, .int ac, .int bl, .ref m7, .int (nI σ.2.2.1)]) E hK hP 0 rfl zC_M 2 (by decide) kw_592 (Or.inl rfl) rfl d_M_tone_1 ?_
    refine lv_iload_n hx hb d_M_tone_4 rfl (lv_at hl 1 rfl) ?_
    refine va_iald hx hb hK hP 2 1 rfl rfl (vp_in_nI hi (by decide)) d_M_tone_5 ?_
    rw [nI_clamp (i31 hi)]
    rw [hkd]
    refine lv_tableIn (off := 38) (tgt := 44) hx hb d_M_tone_6 (by decide) (by decide) (by decide) (by decide) ?_
    refine lv_aload_n hx hb d_M_tone_44 rfl (lv_at hl 0 rfl) ?_
    refine zcV (As := []) (rest := []) (ci := 11) E cy_M_toneDrum kw_798 ks_41 kw_796 (c_M_toneDrum l dC dI g1 g2 g3 g4 g5 g6 g7 A aM m1 m2 m3 m4 m5 m6 m7 d n kd ht tk so lt sto ni ac bl i hi σ) hK hP hD hS 0 rfl zC_M.1 rfl rfl hl.1 rfl (Nat.le_of_ble_eq_true rfl) ⟨Nat.le_of_ble_eq_true rfl, Nat.le_of_ble_eq_true rfl⟩ d_M_tone_45 ⟨Nat.le_refl _, Nat.le_refl _⟩ (fun H locs hP hD hS => ?_)
    have hP : va_P (dC, dI) classes (wm g1 g2 g3 g4 g5 g6 g7 aM m1 m2 m3 m4 m5 m6 m7 d n kd ht tk (upd so i ((oDrum d σ).2).1) lt sto ni ac bl ((oDrum d σ).2).2) H := hP
    have hD : va_D A (wm g1 g2 g3 g4 g5 g6 g7 aM m1 m2 m3 m4 m5 m6 m7 d n kd ht tk (upd so i ((oDrum d σ).2).1) lt sto ni ac bl ((oDrum d σ).2).2) := hD
    exact zri E hK hP hD hS d_M_tone_48
  · refine zM_of "CoastLampsModel" rfl (by decide) (Nat.le_of_ble_eq_true rfl) ?_
    intro p e s m below meth c ls E hP hK hD hS hl
    obtain ⟨hx, hb, hml, ho, hts, hr, hlk⟩ := id E
    have hl : lv_has ls 2 [(0, .ref aM), (1, .int (nI i))] := hl
    refine lv_aload_n hx hb d_M_tone_0 rfl (lv_at hl 0 rfl) ?_
    refine zget (ci := 11) (fs := [.ref m1, .int (nI n), .ref m2, .ref m3, .ref m4, .ref m5, .ref m6, .long sto, .int ni, .int ac, .int bl, .ref m7, .int (nI σ.2.2.1)]) E hK hP 0 rfl zC_M 2 (by decide) kw_592 (Or.inl rfl) rfl d_M_tone_1 ?_
    refine lv_iload_n hx hb d_M_tone_4 rfl (lv_at hl 1 rfl) ?_
    refine va_iald hx hb hK hP 2 1 rfl rfl (vp_in_nI hi (by decide)) d_M_tone_5 ?_
    rw [nI_clamp (i31 hi)]
    rw [hkd]
    refine lv_tableIn (off := 38) (tgt := 44) hx hb d_M_tone_6 (by decide) (by decide) (by decide) (by decide) ?_
    refine lv_aload_n hx hb d_M_tone_44 rfl (lv_at hl 0 rfl) ?_
    refine zcV (As := []) (rest := []) (ci := 11) E cy_M_toneDrum kw_798 ks_41 kw_796 (c_M_toneDrum l dC dI g1 g2 g3 g4 g5 g6 g7 A aM m1 m2 m3 m4 m5 m6 m7 d n kd ht tk so lt sto ni ac bl i hi σ) hK hP hD hS 0 rfl zC_M.1 rfl rfl hl.1 rfl (Nat.le_of_ble_eq_true rfl) ⟨Nat.le_of_ble_eq_true rfl, Nat.le_of_ble_eq_true rfl⟩ d_M_tone_45 ⟨Nat.le_refl _, Nat.le_refl _⟩ (fun H locs hP hD hS => ?_)
    have hP : va_P (dC, dI) classes (wm g1 g2 g3 g4 g5 g6 g7 aM m1 m2 m3 m4 m5 m6 m7 d n kd ht tk (upd so i ((oDrum d σ).2).1) lt sto ni ac bl ((oDrum d σ).2).2) H := hP
    have hD : va_D A (wm g1 g2 g3 g4 g5 g6 g7 aM m1 m2 m3 m4 m5 m6 m7 d n kd ht tk (upd so i ((oDrum d σ).2).1) lt sto ni ac bl ((oDrum d σ).2).2) := hD
    exact zri E hK hP hD hS d_M_tone_48
  · exact absurd hh (by decide)
  · refine zM_of "CoastLampsModel" rfl (by decide) (Nat.le_of_ble_eq_true rfl) ?_
    intro p e s m below meth c ls E hP hK hD hS hl
    obtain ⟨hx, hb, hml, ho, hts, hr, hlk⟩ := id E
    have hl : lv_has ls 2 [(0, .ref aM), (1, .int (nI i))] := hl
    refine lv_aload_n hx hb d_M_tone_0 rfl (lv_at hl 0 rfl) ?_
    refine zget (ci := 11) (fs := [.ref m1, .int (nI n), .ref m2, .ref m3, .ref m4, .ref m5, .ref m6, .long sto, .int ni, .int ac, .int bl, .ref m7, .int (nI σ.2.2.1)]) E hK hP 0 rfl zC_M 2 (by decide) kw_592 (Or.inl rfl) rfl d_M_tone_1 ?_
    refine lv_iload_n hx hb d_M_tone_4 rfl (lv_at hl 1 rfl) ?_
    refine va_iald hx hb hK hP 2 1 rfl rfl (vp_in_nI hi (by decide)) d_M_tone_5 ?_
    rw [nI_clamp (i31 hi)]
    rw [hkd]
    refine lv_tableIn (off := 43) (tgt := 49) hx hb d_M_tone_6 (by decide) (by decide) (by decide) (by decide) ?_
    refine lv_aload_n hx hb d_M_tone_49 rfl (lv_at hl 0 rfl) ?_
    refine zcV (As := []) (rest := []) (ci := 11) E cy_M_toneFlare kw_806 ks_43 kw_804 (c_M_toneFlare l dC dI g1 g2 g3 g4 g5 g6 g7 A aM m1 m2 m3 m4 m5 m6 m7 d n kd ht tk so lt sto ni ac bl i hi σ) hK hP hD hS 0 rfl zC_M.1 rfl rfl hl.1 rfl (Nat.le_of_ble_eq_true rfl) ⟨Nat.le_of_ble_eq_true rfl, Nat.le_of_ble_eq_true rfl⟩ d_M_tone_50 ⟨Nat.le_refl _, Nat.le_refl _⟩ (fun H locs hP hD hS => ?_)
    have hP : va_P (dC, dI) classes (wm g1 g2 g3 g4 g5 g6 g7 aM m1 m2 m3 m4 m5 m6 m7 d n kd ht tk (upd so i ((oFlare σ).2).1) lt sto ni ac bl ((oFlare σ).2).2) H := hP
    have hD : va_D A (wm g1 g2 g3 g4 g5 g6 g7 aM m1 m2 m3 m4 m5 m6 m7 d n kd ht tk (upd so i ((oFlare σ).2).1) lt sto ni ac bl ((oFlare σ).2).2) := hD
    exact zri E hK hP hD hS d_M_tone_53
  · refine zM_of "CoastLampsModel" rfl (by decide) (Nat.le_of_ble_eq_true rfl) ?_
    intro p e s m below meth c ls E hP hK hD hS hl
    obtain ⟨hx, hb, hml, ho, hts, hr, hlk⟩ := id E
    have hl : lv_has ls 2 [(0, .ref aM), (1, .int (nI i))] := hl
    refine lv_aload_n hx hb d_M_tone_0 rfl (lv_at hl 0 rfl) ?_
    refine zget (ci := 11) (fs := [.ref m1, .int (nI n), .ref m2, .ref m3, .ref m4, .ref m5, .ref m6, .long sto, .int ni, .int ac, .int bl, .ref m7, .int (nI σ.2.2.1)]) E hK hP 0 rfl zC_M 2 (by decide) kw_592 (Or.inl rfl) rfl d_M_tone_1 ?_
    refine lv_iload_n hx hb d_M_tone_4 rfl (lv_at hl 1 rfl) ?_
    refine va_iald hx hb hK hP 2 1 rfl rfl (vp_in_nI hi (by decide)) d_M_tone_5 ?_
    rw [nI_clamp (i31 hi)]
    rw [hkd]
    refine lv_tableIn (off := 43) (tgt := 49) hx hb d_M_tone_6 (by decide) (by decide) (by decide) (by decide) ?_
    refine lv_aload_n hx hb d_M_tone_49 rfl (lv_at hl 0 rfl) ?_
    refine zcV (As := []) (rest := []) (ci := 11) E cy_M_toneFlare kw_806 ks_43 kw_804 (c_M_toneFlare l dC dI g1 g2 g3 g4 g5 g6 g7 A aM m1 m2 m3 m4 m5 m6 m7 d n kd ht tk so lt sto ni ac bl i hi σ) hK hP hD hS 0 rfl zC_M.1 rfl rfl hl.1 rfl (Nat.le_of_ble_eq_true rfl) ⟨Nat.le_of_ble_eq_true rfl, Nat.le_of_ble_eq_true rfl⟩ d_M_tone_50 ⟨Nat.le_refl _, Nat.le_refl _⟩ (fun H locs hP hD hS => ?_)
    have hP : va_P (dC, dI) classes (wm g1 g2 g3 g4 g5 g6 g7 aM m1 m2 m3 m4 m5 m6 m7 d n kd ht tk (upd so i ((oFlare σ).2).1) lt sto ni ac bl ((oFlare σ).2).2) H := hP
    have hD : va_D A (wm g1 g2 g3 g4 g5 g6 g7 aM m1 m2 m3 m4 m5 m6 m7 d n kd ht tk (upd so i ((oFlare σ).2).1) lt sto ni ac bl ((oFlare σ).2).2) := hD
    exact zri E hK hP hD hS d_M_tone_53
  · refine zM_of "CoastLampsModel" rfl (by decide) (Nat.le_of_ble_eq_true rfl) ?_
    intro p e s m below meth c ls E hP hK hD hS hl
    obtain ⟨hx, hb, hml, ho, hts, hr, hlk⟩ := id E
    have hl : lv_has ls 2 [(0, .ref aM), (1, .int (nI i))] := hl
    refine lv_aload_n hx hb d_M_tone_0 rfl (lv_at hl 0 rfl) ?_
    refine zget (ci := 11) (fs := [.ref m1, .int (nI n), .ref m2, .ref m3, .ref m4, .ref m5, .ref m6, .long sto, .int ni, .int ac, .int bl, .ref m7, .int (nI σ.2.2.1)]) E hK hP 0 rfl zC_M 2 (by decide) kw_592 (Or.inl rfl) rfl d_M_tone_1 ?_
    refine lv_iload_n hx hb d_M_tone_4 rfl (lv_at hl 1 rfl) ?_
    refine va_iald hx hb hK hP 2 1 rfl rfl (vp_in_nI hi (by decide)) d_M_tone_5 ?_
    rw [nI_clamp (i31 hi)]
    rw [hkd]
    refine lv_tableIn (off := 48) (tgt := 54) hx hb d_M_tone_6 (by decide) (by decide) (by decide) (by decide) ?_
    refine lv_aload_n hx hb d_M_tone_54 rfl (lv_at hl 0 rfl) ?_
    refine lv_iload_n hx hb d_M_tone_55 rfl (lv_at hl 1 rfl) ?_
    refine zcV (As := [.int (nI i)]) (rest := []) (ci := 11) E cy_M_toneOuter kw_810 ks_44 kw_808 (c_M_toneOuter l dC dI g1 g2 g3 g4 g5 g6 g7 A aM m1 m2 m3 m4 m5 m6 m7 d n kd ht tk so lt sto ni ac bl i hi σ hkd) hK hP hD hS 0 rfl zC_M.1 rfl rfl hl.1 rfl (Nat.le_of_ble_eq_true rfl) ⟨Nat.le_of_ble_eq_true rfl, Nat.le_of_ble_eq_true rfl⟩ d_M_tone_56 ⟨Nat.le_refl _, Nat.le_refl _⟩ (fun H locs hP hD hS => ?_)
    have hP : va_P (dC, dI) classes (wm g1 g2 g3 g4 g5 g6 g7 aM m1 m2 m3 m4 m5 m6 m7 d n kd ht tk (upd so i ((oOuter (ht i) (tk i) σ).2).1) lt sto ni ac bl ((oOuter (ht i) (tk i) σ).2).2) H := hP
    have hD : va_D A (wm g1 g2 g3 g4 g5 g6 g7 aM m1 m2 m3 m4 m5 m6 m7 d n kd ht tk (upd so i ((oOuter (ht i) (tk i) σ).2).1) lt sto ni ac bl ((oOuter (ht i) (tk i) σ).2).2) := hD
    exact zri E hK hP hD hS d_M_tone_59
set_option maxHeartbeats 1000000 in
set_option maxRecDepth 100000 in
theorem c_M_horn (l : Launch) (dC : Nat → ClassId) (dI : Nat → Nat → Nat) (g1 g2 g3 g4 g5 g6 g7 : ClassId) (A : Nat → Prop) (aM m1 m2 m3 m4 m5 m6 m7 : Nat) (d : Nat → Int32) (n : Nat) (kd ht tk so lt : Nat → Int32) (sto : Int64) (ni ac bl : Int32) (i : Nat) (hi : i < 60) (σ : zS) (k : Nat) (hk : k < 9) (hkd : kd i = nI (k + 1)) (hh : hornedK k = true) (x : Int32) : zM l y_M_horn b_M_horn 4 (some (FieldType.int)) 7 148 [.ref aM, .int (nI i), .int x] (dC, dI) (t7 g1 g2 g3 g4 g5 g6 g7) A (wm g1 g2 g3 g4 g5 g6 g7 aM m1 m2 m3 m4 m5 m6 m7 d n kd ht tk (upd so i σ.1) lt sto ni ac bl σ.2) (wm g1 g2 g3 g4 g5 g6 g7 aM m1 m2 m3 m4 m5 m6 m7 d n kd ht tk (upd so i (hornK k d (ht i) (tk i) x σ).2.1) lt sto ni ac bl (hornK k d (ht i) (tk i) x σ).2.2) (some (.int (hornK k d (ht i) (tk i) x σ).1)) := by
  rcases (show k = 0 ∨ k = 1 ∨ k = 2 ∨ k = 3 ∨ k = 4 ∨ k = 5 ∨ k = 6 ∨ k = 7 ∨ k = 8 by omega) with rfl | rfl | rfl | rfl | rfl | rfl | rfl | rfl | rfl
  · exact absurd hh (by decide)
  · exact absurd hh (by decide)
  · rw [show hornK 2 d (ht i) (tk i) x σ = ((toneK 2 d (ht i) (tk i) (σ.1, tb 5 σ.2)).1 * x + (reachK 2 d (ht i) 0 (toneK 2 d (ht i) (tk i) (σ.1, tb 5 σ.2)).2).1, (reachK 2 d (ht i) 0 (toneK 2 d (ht i) (tk i) (σ.1, tb 5 σ.2)).2).2) from rfl]
    dsimp only
    refine zM_of "CoastLampsModel" rfl (by decide) (Nat.le_of_ble_eq_true rfl) ?_
    intro p e s m below meth c ls E hP hK hD hS hl
    obtain ⟨hx, hb, hml, ho, hts, hr, hlk⟩ := id E
    have hl : lv_has ls 4 [(0, .ref aM), (1, .int (nI i)), (2, .int x)] := hl
    refine lv_aload_n hx hb d_M_horn_0 rfl (lv_at hl 0 rfl) ?_
    refine zget (ci := 11) (fs := [.ref m1, .int (nI n), .ref m2, .ref m3, .ref m4, .ref m5, .ref m6, .long sto, .int ni, .int ac, .int bl, .ref m7, .int (nI σ.2.2.1)]) E hK hP 0 rfl zC_M 2 (by decide) kw_592 (Or.inl rfl) rfl d_M_horn_1 ?_
    refine lv_iload_n hx hb d_M_horn_4 rfl (lv_at hl 1 rfl) ?_
    refine va_iald hx hb hK hP 2 1 rfl rfl (vp_in_nI hi (by decide)) d_M_horn_5 ?_
    rw [nI_clamp (i31 hi)]
    rw [hkd]
    refine lv_iconst (v := 5) hx hb d_M_horn_6 (by decide) ?_
    refine lv_icmp_ne (tgt := 24) hx hb d_M_horn_7 (by decide) (fun _ => ?_) (fun h9 => absurd h9 (by decide))
    refine lv_aload_n hx hb d_M_horn_24 rfl (lv_at hl 0 rfl) ?_
    refine lv_iconst (v := 5) hx hb d_M_horn_25 (by decide) ?_
    refine zcV (As := [.int 5]) (rest := []) (ci := 11) E cy_M_begins kw_670 ks_9 kw_668 (c_M_begins l dC dI g1 g2 g3 g4 g5 g6 g7 A aM m1 m2 m3 m4 m5 m6 m7 d n kd ht tk (upd so i σ.1) lt sto ni ac bl σ.2 5) hK hP hD hS 0 rfl zC_M.1 rfl rfl hl.1 rfl (Nat.le_of_ble_eq_true rfl) ⟨Nat.le_of_ble_eq_true rfl, Nat.le_of_ble_eq_true rfl⟩ d_M_horn_26 ⟨Nat.le_refl _, Nat.le_refl _⟩ (fun H locs hP hD hS => ?_)
    have hP : va_P (dC, dI) classes (wm g1 g2 g3 g4 g5 g6 g7 aM m1 m2 m3 m4 m5 m6 m7 d n kd ht tk (upd so i (σ.1, tb 5 σ.2).1) lt sto ni ac bl (σ.1, tb 5 σ.2).2) H := hP
    have hD : va_D A (wm g1 g2 g3 g4 g5 g6 g7 aM m1 m2 m3 m4 m5 m6 m7 d n kd ht tk (upd so i (σ.1, tb 5 σ.2).1) lt sto ni ac bl (σ.1, tb 5 σ.2).2) := hD
    refine lv_aload_n hx hb d_M_horn_29 rfl (lv_at hl 0 rfl) ?_
    refine lv_iload_n hx hb d_M_horn_30 rfl (lv_at hl 1 rfl) ?_
    refine zcV (As := [.int (nI i)]) (rest := []) (ci := 11) E cy_M_tone kw_794 ks_40 kw_792 (c_M_tone l dC dI g1 g2 g3 g4 g5 g6 g7 A aM m1 m2 m3 m4 m5 m6 m7 d n kd ht tk so lt sto ni ac bl i hi (σ.1, tb 5 σ.2) 2 (by decide) hkd (by decide)) hK hP hD hS 0 rfl zC_M.1 rfl rfl hl.1 rfl (Nat.le_of_ble_eq_true rfl) ⟨Nat.le_of_ble_eq_true rfl, Nat.le_of_ble_eq_true rfl⟩ d_M_horn_31 ⟨Nat.le_refl _, Nat.le_refl _⟩ (fun H locs hP hD hS => ?_)
    have hP : va_P (dC, dI) classes (wm g1 g2 g3 g4 g5 g6 g7 aM m1 m2 m3 m4 m5 m6 m7 d n kd ht tk (upd so i ((toneK 2 d (ht i) (tk i) (σ.1, tb 5 σ.2)).2).1) lt sto ni ac bl ((toneK 2 d (ht i) (tk i) (σ.1, tb 5 σ.2)).2).2) H := hP
    have hD : va_D A (wm g1 g2 g3 g4 g5 g6 g7 aM m1 m2 m3 m4 m5 m6 m7 d n kd ht tk (upd so i ((toneK 2 d (ht i) (tk i) (σ.1, tb 5 σ.2)).2).1) lt sto ni ac bl ((toneK 2 d (ht i) (tk i) (σ.1, tb 5 σ.2)).2).2) := hD
    refine lv_iload_n hx hb d_M_horn_34 rfl (lv_at hl 2 rfl) ?_
    refine lv_imul hx hb d_M_horn_35 ?_
    refine lv_istore_n (lv' := [(3, .int (((toneK 2 d (ht i) (tk i) (σ.1, tb 5 σ.2)).1) * x)), (0, .ref aM), (1, .int (nI i)), (2, .int x)]) hx hb d_M_horn_36 rfl hl (by decide) rfl (fun ls hl => ?_)
    refine lv_iload_n hx hb d_M_horn_37 rfl (lv_at hl 0 rfl) ?_
    refine lv_aload_n hx hb d_M_horn_38 rfl (lv_at hl 1 rfl) ?_
    refine lv_iload_n hx hb d_M_horn_39 rfl (lv_at hl 2 rfl) ?_
    refine lv_iconst (v := 0) hx hb d_M_horn_40 (by decide) ?_
    refine zcV (As := [.int (nI i), .int 0]) (rest := [.int (((toneK 2 d (ht i) (tk i) (σ.1, tb 5 σ.2)).1) * x)]) (ci := 11) E cy_M_reach kw_694 ks_15 kw_692 (c_M_reach l dC dI g1 g2 g3 g4 g5 g6 g7 A aM m1 m2 m3 m4 m5 m6 m7 d n kd ht tk so lt sto ni ac bl i hi ((toneK 2 d (ht i) (tk i) (σ.1, tb 5 σ.2)).2) 2 (by decide) hkd 0) hK hP hD hS 0 rfl zC_M.1 rfl rfl hl.1 rfl (Nat.le_of_ble_eq_true rfl) ⟨Nat.le_of_ble_eq_true rfl, Nat.le_of_ble_eq_true rfl⟩ d_M_horn_41 ⟨Nat.le_refl _, Nat.le_refl _⟩ (fun H locs hP hD hS => ?_)
    have hP : va_P (dC, dI) classes (wm g1 g2 g3 g4 g5 g6 g7 aM m1 m2 m3 m4 m5 m6 m7 d n kd ht tk (upd so i ((reachK 2 d (ht i) 0 ((toneK 2 d (ht i) (tk i) (σ.1, tb 5 σ.2)).2)).2).1) lt sto ni ac bl ((reachK 2 d (ht i) 0 ((toneK 2 d (ht i) (tk i) (σ.1, tb 5 σ.2)).2)).2).2) H := hP
    have hD : va_D A (wm g1 g2 g3 g4 g5 g6 g7 aM m1 m2 m3 m4 m5 m6 m7 d n kd ht tk (upd so i ((reachK 2 d (ht i) 0 ((toneK 2 d (ht i) (tk i) (σ.1, tb 5 σ.2)).2)).2).1) lt sto ni ac bl ((reachK 2 d (ht i) 0 ((toneK 2 d (ht i) (tk i) (σ.1, tb 5 σ.2)).2)).2).2) := hD
    refine lv_iadd hx hb d_M_horn_44 ?_
    exact zri E hK hP hD hS d_M_horn_45
  · rw [show hornK 3 d (ht i) (tk i) x σ = ((toneK 3 d (ht i) (tk i) (σ.1, tb 5 σ.2)).1 * x + (reachK 3 d (ht i) 0 (toneK 3 d (ht i) (tk i) (σ.1, tb 5 σ.2)).2).1, (reachK 3 d (ht i) 0 (toneK 3 d (ht i) (tk i) (σ.1, tb 5 σ.2)).2).2) from rfl]
    dsimp only
    refine zM_of "CoastLampsModel" rfl (by decide) (Nat.le_of_ble_eq_true rfl) ?_
    intro p e s m below meth c ls E hP hK hD hS hl
    obtain ⟨hx, hb, hml, ho, hts, hr, hlk⟩ := id E
    have hl : lv_has ls 4 [(0, .ref aM), (1, .int (nI i)), (2, .int x)] := hl
    refine lv_aload_n hx hb d_M_horn_0 rfl (lv_at hl 0 rfl) ?_
    refine zget (ci := 11) (fs := [.ref m1, .int (nI n), .ref m2, .ref m3, .ref m4, .ref m5, .ref m6, .long sto, .int ni, .int ac, .int bl, .ref m7, .int (nI σ.2.2.1)]) E hK hP 0 rfl zC_M 2 (by decide) kw_592 (Or.inl rfl) rfl d_M_horn_1 ?_
    refine lv_iload_n hx hb d_M_horn_4 rfl (lv_at hl 1 rfl) ?_
    refine va_iald hx hb hK hP 2 1 rfl rfl (vp_in_nI hi (by decide)) d_M_horn_5 ?_
    rw [nI_clamp (i31 hi)]
    rw [hkd]
    refine lv_iconst (v := 5) hx hb d_M_horn_6 (by decide) ?_
    refine lv_icmp_ne (tgt := 24) hx hb d_M_horn_7 (by decide) (fun _ => ?_) (fun h9 => absurd h9 (by decide))
    refine lv_aload_n hx hb d_M_horn_24 rfl (lv_at hl 0 rfl) ?_
    refine lv_iconst (v := 5) hx hb d_M_horn_25 (by decide) ?_
    refine zcV (As := [.int 5]) (rest := []) (ci := 11) E cy_M_begins kw_670 ks_9 kw_668 (c_M_begins l dC dI g1 g2 g3 g4 g5 g6 g7 A aM m1 m2 m3 m4 m5 m6 m7 d n kd ht tk (upd so i σ.1) lt sto ni ac bl σ.2 5) hK hP hD hS 0 rfl zC_M.1 rfl rfl hl.1 rfl (Nat.le_of_ble_eq_true rfl) ⟨Nat.le_of_ble_eq_true rfl, Nat.le_of_ble_eq_true rfl⟩ d_M_horn_26 ⟨Nat.le_refl _, Nat.le_refl _⟩ (fun H locs hP hD hS => ?_)
    have hP : va_P (dC, dI) classes (wm g1 g2 g3 g4 g5 g6 g7 aM m1 m2 m3 m4 m5 m6 m7 d n kd ht tk (upd so i (σ.1, tb 5 σ.2).1) lt sto ni ac bl (σ.1, tb 5 σ.2).2) H := hP
    have hD : va_D A (wm g1 g2 g3 g4 g5 g6 g7 aM m1 m2 m3 m4 m5 m6 m7 d n kd ht tk (upd so i (σ.1, tb 5 σ.2).1) lt sto ni ac bl (σ.1, tb 5 σ.2).2) := hD
    refine lv_aload_n hx hb d_M_horn_29 rfl (lv_at hl 0 rfl) ?_
    refine lv_iload_n hx hb d_M_horn_30 rfl (lv_at hl 1 rfl) ?_
    refine zcV (As := [.int (nI i)]) (rest := []) (ci := 11) E cy_M_tone kw_794 ks_40 kw_792 (c_M_tone l dC dI g1 g2 g3 g4 g5 g6 g7 A aM m1 m2 m3 m4 m5 m6 m7 d n kd ht tk so lt sto ni ac bl i hi (σ.1, tb 5 σ.2) 3 (by decide) hkd (by decide)) hK hP hD hS 0 rfl zC_M.1 rfl rfl hl.1 rfl (Nat.le_of_ble_eq_true rfl) ⟨Nat.le_of_ble_eq_true rfl, Nat.le_of_ble_eq_true rfl⟩ d_M_horn_31 ⟨Nat.le_refl _, Nat.le_refl _⟩ (fun H locs hP hD hS => ?_)
    have hP : va_P (dC, dI) classes (wm g1 g2 g3 g4 g5 g6 g7 aM m1 m2 m3 m4 m5 m6 m7 d n kd ht tk (upd so i ((toneK 3 d (ht i) (tk i) (σ.1, tb 5 σ.2)).2).1) lt sto ni ac bl ((toneK 3 d (ht i) (tk i) (σ.1, tb 5 σ.2)).2).2) H := hP
    have hD : va_D A (wm g1 g2 g3 g4 g5 g6 g7 aM m1 m2 m3 m4 m5 m6 m7 d n kd ht tk (upd so i ((toneK 3 d (ht i) (tk i) (σ.1, tb 5 σ.2)).2).1) lt sto ni ac bl ((toneK 3 d (ht i) (tk i) (σ.1, tb 5 σ.2)).2).2) := hD
    refine lv_iload_n hx hb d_M_horn_34 rfl (lv_at hl 2 rfl) ?_
    refine lv_imul hx hb d_M_horn_35 ?_
    refine lv_istore_n (lv' := [(3, .int (((toneK 3 d (ht i) (tk i) (σ.1, tb 5 σ.2)).1) * x)), (0, .ref aM), (1, .int (nI i)), (2, .int x)]) hx hb d_M_horn_36 rfl hl (by decide) rfl (fun ls hl => ?_)
    refine lv_iload_n hx hb d_M_horn_37 rfl (lv_at hl 0 rfl) ?_
    refine lv_aload_n hx hb d_M_horn_38 rfl (lv_at hl 1 rfl) ?_
    refine lv_iload_n hx hb d_M_horn_39 rfl (lv_at hl 2 rfl) ?_
    refine lv_iconst (v := 0) hx hb d_M_horn_40 (by decide) ?_
    refine zcV (As := [.int (nI i), .int 0]) (rest := [.int (((toneK 3 d (ht i) (tk i) (σ.1, tb 5 σ.2)).1) * x)]) (ci := 11) E cy_M_reach kw_694 ks_15 kw_692 (c_M_reach l dC dI g1 g2 g3 g4 g5 g6 g7 A aM m1 m2 m3 m4 m5 m6 m7 d n kd ht tk so lt sto ni ac bl i hi ((toneK 3 d (ht i) (tk i) (σ.1, tb 5 σ.2)).2) 3 (by decide) hkd 0) hK hP hD hS 0 rfl zC_M.1 rfl rfl hl.1 rfl (Nat.le_of_ble_eq_true rfl) ⟨Nat.le_of_ble_eq_true rfl, Nat.le_of_ble_eq_true rfl⟩ d_M_horn_41 ⟨Nat.le_refl _, Nat.le_refl _⟩ (fun H locs hP hD hS => ?_)
    have hP : va_P (dC, dI) classes (wm g1 g2 g3 g4 g5 g6 g7 aM m1 m2 m3 m4 m5 m6 m7 d n kd ht tk (upd so i ((reachK 3 d (ht i) 0 ((toneK 3 d (ht i) (tk i) (σ.1, tb 5 σ.2)).2)).2).1) lt sto ni ac bl ((reachK 3 d (ht i) 0 ((toneK 3 d (ht i) (tk i) (σ.1, tb 5 σ.2)).2)).2).2) H := hP
    have hD : va_D A (wm g1 g2 g3 g4 g5 g6 g7 aM m1 m2 m3 m4 m5 m6 m7 d n kd ht tk (upd so i ((reachK 3 d (ht i) 0 ((toneK 3 d (ht i) (tk i) (σ.1, tb 5 σ.2)).2)).2).1) lt sto ni ac bl ((reachK 3 d (ht i) 0 ((toneK 3 d (ht i) (tk i) (σ.1, tb 5 σ.2)).2)).2).2) := hD
    refine lv_iadd hx hb d_M_horn_44 ?_
    exact zri E hK hP hD hS d_M_horn_45
  · rw [show hornK 4 d (ht i) (tk i) x σ = ((toneK 4 d (ht i) (tk i) (σ.1, tb 55 σ.2)).1 + x, (toneK 4 d (ht i) (tk i) (σ.1, tb 55 σ.2)).2) from rfl]
    dsimp only
    refine zM_of "CoastLampsModel" rfl (by decide) (Nat.le_of_ble_eq_true rfl) ?_
    intro p e s m below meth c ls E hP hK hD hS hl
    obtain ⟨hx, hb, hml, ho, hts, hr, hlk⟩ := id E
    have hl : lv_has ls 4 [(0, .ref aM), (1, .int (nI i)), (2, .int x)] := hl
    refine lv_aload_n hx hb d_M_horn_0 rfl (lv_at hl 0 rfl) ?_
    refine zget (ci := 11) (fs := [.ref m1, .int (nI n), .ref m2, .ref m3, .ref m4, .ref m5, .ref m6, .long sto, .int ni, .int ac, .int bl, .ref m7, .int (nI σ.2.2.1)]) E hK hP 0 rfl zC_M 2 (by decide) kw_592 (Or.inl rfl) rfl d_M_horn_1 ?_
    refine lv_iload_n hx hb d_M_horn_4 rfl (lv_at hl 1 rfl) ?_
    refine va_iald hx hb hK hP 2 1 rfl rfl (vp_in_nI hi (by decide)) d_M_horn_5 ?_
    rw [nI_clamp (i31 hi)]
    rw [hkd]
    refine lv_iconst (v := 5) hx hb d_M_horn_6 (by decide) ?_
    refine lv_icmp_ne (tgt := 24) hx hb d_M_horn_7 (by decide) (fun h9 => absurd (by decide) h9) (fun _ => ?_)
    refine lv_aload_n hx hb d_M_horn_10 rfl (lv_at hl 0 rfl) ?_
    refine lv_bipush (v := 55) hx hb d_M_horn_11 (by decide) ?_
    refine zcV (As := [.int 55]) (rest := []) (ci := 11) E cy_M_begins kw_670 ks_9 kw_668 (c_M_begins l dC dI g1 g2 g3 g4 g5 g6 g7 A aM m1 m2 m3 m4 m5 m6 m7 d n kd ht tk (upd so i σ.1) lt sto ni ac bl σ.2 55) hK hP hD hS 0 rfl zC_M.1 rfl rfl hl.1 rfl (Nat.le_of_ble_eq_true rfl) ⟨Nat.le_of_ble_eq_true rfl, Nat.le_of_ble_eq_true rfl⟩ d_M_horn_13 ⟨Nat.le_refl _, Nat.le_refl _⟩ (fun H locs hP hD hS => ?_)
    have hP : va_P (dC, dI) classes (wm g1 g2 g3 g4 g5 g6 g7 aM m1 m2 m3 m4 m5 m6 m7 d n kd ht tk (upd so i (σ.1, tb 55 σ.2).1) lt sto ni ac bl (σ.1, tb 55 σ.2).2) H := hP
    have hD : va_D A (wm g1 g2 g3 g4 g5 g6 g7 aM m1 m2 m3 m4 m5 m6 m7 d n kd ht tk (upd so i (σ.1, tb 55 σ.2).1) lt sto ni ac bl (σ.1, tb 55 σ.2).2) := hD
    refine lv_aload_n hx hb d_M_horn_16 rfl (lv_at hl 0 rfl) ?_
    refine lv_iload_n hx hb d_M_horn_17 rfl (lv_at hl 1 rfl) ?_
    refine zcV (As := [.int (nI i)]) (rest := []) (ci := 11) E cy_M_tone kw_794 ks_40 kw_792 (c_M_tone l dC dI g1 g2 g3 g4 g5 g6 g7 A aM m1 m2 m3 m4 m5 m6 m7 d n kd ht tk so lt sto ni ac bl i hi (σ.1, tb 55 σ.2) 4 (by decide) hkd (by decide)) hK hP hD hS 0 rfl zC_M.1 rfl rfl hl.1 rfl (Nat.le_of_ble_eq_true rfl) ⟨Nat.le_of_ble_eq_true rfl, Nat.le_of_ble_eq_true rfl⟩ d_M_horn_18 ⟨Nat.le_refl _, Nat.le_refl _⟩ (fun H locs hP hD hS => ?_)
    have hP : va_P (dC, dI) classes (wm g1 g2 g3 g4 g5 g6 g7 aM m1 m2 m3 m4 m5 m6 m7 d n kd ht tk (upd so i ((toneK 4 d (ht i) (tk i) (σ.1, tb 55 σ.2)).2).1) lt sto ni ac bl ((toneK 4 d (ht i) (tk i) (σ.1, tb 55 σ.2)).2).2) H := hP
    have hD : va_D A (wm g1 g2 g3 g4 g5 g6 g7 aM m1 m2 m3 m4 m5 m6 m7 d n kd ht tk (upd so i ((toneK 4 d (ht i) (tk i) (σ.1, tb 55 σ.2)).2).1) lt sto ni ac bl ((toneK 4 d (ht i) (tk i) (σ.1, tb 55 σ.2)).2).2) := hD
    refine lv_iload_n hx hb d_M_horn_21 rfl (lv_at hl 2 rfl) ?_
    refine lv_iadd hx hb d_M_horn_22 ?_
    exact zri E hK hP hD hS d_M_horn_23
  · exact absurd hh (by decide)
  · rw [show hornK 6 d (ht i) (tk i) x σ = ((toneK 6 d (ht i) (tk i) (σ.1, tb 5 σ.2)).1 * x + (reachK 6 d (ht i) 0 (toneK 6 d (ht i) (tk i) (σ.1, tb 5 σ.2)).2).1, (reachK 6 d (ht i) 0 (toneK 6 d (ht i) (tk i) (σ.1, tb 5 σ.2)).2).2) from rfl]
    dsimp only
    refine zM_of "CoastLampsModel" rfl (by decide) (Nat.le_of_ble_eq_true rfl) ?_
    intro p e s m below meth c ls E hP hK hD hS hl
    obtain ⟨hx, hb, hml, ho, hts, hr, hlk⟩ := id E
    have hl : lv_has ls 4 [(0, .ref aM), (1, .int (nI i)), (2, .int x)] := hl
    refine lv_aload_n hx hb d_M_horn_0 rfl (lv_at hl 0 rfl) ?_
    refine zget (ci := 11) (fs := [.ref m1, .int (nI n), .ref m2, .ref m3, .ref m4, .ref m5, .ref m6, .long sto, .int ni, .int ac, .int bl, .ref m7, .int (nI σ.2.2.1)]) E hK hP 0 rfl zC_M 2 (by decide) kw_592 (Or.inl rfl) rfl d_M_horn_1 ?_
    refine lv_iload_n hx hb d_M_horn_4 rfl (lv_at hl 1 rfl) ?_
    refine va_iald hx hb hK hP 2 1 rfl rfl (vp_in_nI hi (by decide)) d_M_horn_5 ?_
    rw [nI_clamp (i31 hi)]
    rw [hkd]
    refine lv_iconst (v := 5) hx hb d_M_horn_6 (by decide) ?_
    refine lv_icmp_ne (tgt := 24) hx hb d_M_horn_7 (by decide) (fun _ => ?_) (fun h9 => absurd h9 (by decide))
    refine lv_aload_n hx hb d_M_horn_24 rfl (lv_at hl 0 rfl) ?_
    refine lv_iconst (v := 5) hx hb d_M_horn_25 (by decide) ?_
    refine zcV (As := [.int 5]) (rest := []) (ci := 11) E cy_M_begins kw_670 ks_9 kw_668 (c_M_begins l dC dI g1 g2 g3 g4 g5 g6 g7 A aM m1 m2 m3 m4 m5 m6 m7 d n kd ht tk (upd so i σ.1) lt sto ni ac bl σ.2 5) hK hP hD hS 0 rfl zC_M.1 rfl rfl hl.1 rfl (Nat.le_of_ble_eq_true rfl) ⟨Nat.le_of_ble_eq_true rfl, Nat.le_of_ble_eq_true rfl⟩ d_M_horn_26 ⟨Nat.le_refl _, Nat.le_refl _⟩ (fun H locs hP hD hS => ?_)
    have hP : va_P (dC, dI) classes (wm g1 g2 g3 g4 g5 g6 g7 aM m1 m2 m3 m4 m5 m6 m7 d n kd ht tk (upd so i (σ.1, tb 5 σ.2).1) lt sto ni ac bl (σ.1, tb 5 σ.2).2) H := hP
    have hD : va_D A (wm g1 g2 g3 g4 g5 g6 g7 aM m1 m2 m3 m4 m5 m6 m7 d n kd ht tk (upd so i (σ.1, tb 5 σ.2).1) lt sto ni ac bl (σ.1, tb 5 σ.2).2) := hD
    refine lv_aload_n hx hb d_M_horn_29 rfl (lv_at hl 0 rfl) ?_
    refine lv_iload_n hx hb d_M_horn_30 rfl (lv_at hl 1 rfl) ?_
    refine zcV (As := [.int (nI i)]) (rest := []) (ci := 11) E cy_M_tone kw_794 ks_40 kw_792 (c_M_tone l dC dI g1 g2 g3 g4 g5 g6 g7 A aM m1 m2 m3 m4 m5 m6 m7 d n kd ht tk so lt sto ni ac bl i hi (σ.1, tb 5 σ.2) 6 (by decide) hkd (by decide)) hK hP hD hS 0 rfl zC_M.1 rfl rfl hl.1 rfl (Nat.le_of_ble_eq_true rfl) ⟨Nat.le_of_ble_eq_true rfl, Nat.le_of_ble_eq_true rfl⟩ d_M_horn_31 ⟨Nat.le_refl _, Nat.le_refl _⟩ (fun H locs hP hD hS => ?_)
    have hP : va_P (dC, dI) classes (wm g1 g2 g3 g4 g5 g6 g7 aM m1 m2 m3 m4 m5 m6 m7 d n kd ht tk (upd so i ((toneK 6 d (ht i) (tk i) (σ.1, tb 5 σ.2)).2).1) lt sto ni ac bl ((toneK 6 d (ht i) (tk i) (σ.1, tb 5 σ.2)).2).2) H := hP
    have hD : va_D A (wm g1 g2 g3 g4 g5 g6 g7 aM m1 m2 m3 m4 m5 m6 m7 d n kd ht tk (upd so i ((toneK 6 d (ht i) (tk i) (σ.1, tb 5 σ.2)).2).1) lt sto ni ac bl ((toneK 6 d (ht i) (tk i) (σ.1, tb 5 σ.2)).2).2) := hD
    refine lv_iload_n hx hb d_M_horn_34 rfl (lv_at hl 2 rfl) ?_
    refine lv_imul hx hb d_M_horn_35 ?_
    refine lv_istore_n (lv' := [(3, .int (((toneK 6 d (ht i) (tk i) (σ.1, tb 5 σ.2)).1) * x)), (0, .ref aM), (1, .int (nI i)), (2, .int x)]) hx hb d_M_horn_36 rfl hl (by decide) rfl (fun ls hl => ?_)
    refine lv_iload_n hx hb d_M_horn_37 rfl (lv_at hl 0 rfl) ?_
    refine lv_aload_n hx hb d_M_horn_38 rfl (lv_at hl 1 rfl) ?_
    refine lv_iload_n hx hb d_M_horn_39 rfl (lv_at hl 2 rfl) ?_
    refine lv_iconst (v := 0) hx hb d_M_horn_40 (by decide) ?_
    refine zcV (As := [.int (nI i), .int 0]) (rest := [.int (((toneK 6 d (ht i) (tk i) (σ.1, tb 5 σ.2)).1) * x)]) (ci := 11) E cy_M_reach kw_694 ks_15 kw_692 (c_M_reach l dC dI g1 g2 g3 g4 g5 g6 g7 A aM m1 m2 m3 m4 m5 m6 m7 d n kd ht tk so lt sto ni ac bl i hi ((toneK 6 d (ht i) (tk i) (σ.1, tb 5 σ.2)).2) 6 (by decide) hkd 0) hK hP hD hS 0 rfl zC_M.1 rfl rfl hl.1 rfl (Nat.le_of_ble_eq_true rfl) ⟨Nat.le_of_ble_eq_true rfl, Nat.le_of_ble_eq_true rfl⟩ d_M_horn_41 ⟨Nat.le_refl _, Nat.le_refl _⟩ (fun H locs hP hD hS => ?_)
    have hP : va_P (dC, dI) classes (wm g1 g2 g3 g4 g5 g6 g7 aM m1 m2 m3 m4 m5 m6 m7 d n kd ht tk (upd so i ((reachK 6 d (ht i) 0 ((toneK 6 d (ht i) (tk i) (σ.1, tb 5 σ.2)).2)).2).1) lt sto ni ac bl ((reachK 6 d (ht i) 0 ((toneK 6 d (ht i) (tk i) (σ.1, tb 5 σ.2)).2)).2).2) H := hP
    have hD : va_D A (wm g1 g2 g3 g4 g5 g6 g7 aM m1 m2 m3 m4 m5 m6 m7 d n kd ht tk (upd so i ((reachK 6 d (ht i) 0 ((toneK 6 d (ht i) (tk i) (σ.1, tb 5 σ.2)).2)).2).1) lt sto ni ac bl ((reachK 6 d (ht i) 0 ((toneK 6 d (ht i) (tk i) (σ.1, tb 5 σ.2)).2)).2).2) := hD
    refine lv_iadd hx hb d_M_horn_44 ?_
    exact zri E hK hP hD hS d_M_horn_45
  · rw [show hornK 7 d (ht i) (tk i) x σ = ((toneK 7 d (ht i) (tk i) (σ.1, tb 5 σ.2)).1 * x + (reachK 7 d (ht i) 0 (toneK 7 d (ht i) (tk i) (σ.1, tb 5 σ.2)).2).1, (reachK 7 d (ht i) 0 (toneK 7 d (ht i) (tk i) (σ.1, tb 5 σ.2)).2).2) from rfl]
    dsimp only
    refine zM_of "CoastLampsModel" rfl (by decide) (Nat.le_of_ble_eq_true rfl) ?_
    intro p e s m below meth c ls E hP hK hD hS hl
    obtain ⟨hx, hb, hml, ho, hts, hr, hlk⟩ := id E
    have hl : lv_has ls 4 [(0, .ref aM), (1, .int (nI i)), (2, .int x)] := hl
    refine lv_aload_n hx hb d_M_horn_0 rfl (lv_at hl 0 rfl) ?_
    refine zget (ci := 11) (fs := [.ref m1, .int (nI n), .ref m2, .ref m3, .ref m4, .ref m5, .ref m6, .long sto, .int ni, .int ac, .int bl, .ref m7, .int (nI σ.2.2.1)]) E hK hP 0 rfl zC_M 2 (by decide) kw_592 (Or.inl rfl) rfl d_M_horn_1 ?_
    refine lv_iload_n hx hb d_M_horn_4 rfl (lv_at hl 1 rfl) ?_
    refine va_iald hx hb hK hP 2 1 rfl rfl (vp_in_nI hi (by decide)) d_M_horn_5 ?_
    rw [nI_clamp (i31 hi)]
    rw [hkd]
    refine lv_iconst (v := 5) hx hb d_M_horn_6 (by decide) ?_
    refine lv_icmp_ne (tgt := 24) hx hb d_M_horn_7 (by decide) (fun _ => ?_) (fun h9 => absurd h9 (by decide))
    refine lv_aload_n hx hb d_M_horn_24 rfl (lv_at hl 0 rfl) ?_
    refine lv_iconst (v := 5) hx hb d_M_horn_25 (by decide) ?_
    refine zcV (As := [.int 5]) (rest := []) (ci := 11) E cy_M_begins kw_670 ks_9 kw_668 (c_M_begins l dC dI g1 g2 g3 g4 g5 g6 g7 A aM m1 m2 m3 m4 m5 m6 m7 d n kd ht tk (upd so i σ.1) lt sto ni ac bl σ.2 5) hK hP hD hS 0 rfl zC_M.1 rfl rfl hl.1 rfl (Nat.le_of_ble_eq_true rfl) ⟨Nat.le_of_ble_eq_true rfl, Nat.le_of_ble_eq_true rfl⟩ d_M_horn_26 ⟨Nat.le_refl _, Nat.le_refl _⟩ (fun H locs hP hD hS => ?_)
    have hP : va_P (dC, dI) classes (wm g1 g2 g3 g4 g5 g6 g7 aM m1 m2 m3 m4 m5 m6 m7 d n kd ht tk (upd so i (σ.1, tb 5 σ.2).1) lt sto ni ac bl (σ.1, tb 5 σ.2).2) H := hP
    have hD : va_D A (wm g1 g2 g3 g4 g5 g6 g7 aM m1 m2 m3 m4 m5 m6 m7 d n kd ht tk (upd so i (σ.1, tb 5 σ.2).1) lt sto ni ac bl (σ.1, tb 5 σ.2).2) := hD
    refine lv_aload_n hx hb d_M_horn_29 rfl (lv_at hl 0 rfl) ?_
    refine lv_iload_n hx hb d_M_horn_30 rfl (lv_at hl 1 rfl) ?_
    refine zcV (As := [.int (nI i)]) (rest := []) (ci := 11) E cy_M_tone kw_794 ks_40 kw_792 (c_M_tone l dC dI g1 g2 g3 g4 g5 g6 g7 A aM m1 m2 m3 m4 m5 m6 m7 d n kd ht tk so lt sto ni ac bl i hi (σ.1, tb 5 σ.2) 7 (by decide) hkd (by decide)) hK hP hD hS 0 rfl zC_M.1 rfl rfl hl.1 rfl (Nat.le_of_ble_eq_true rfl) ⟨Nat.le_of_ble_eq_true rfl, Nat.le_of_ble_eq_true rfl⟩ d_M_horn_31 ⟨Nat.le_refl _, Nat.le_refl _⟩ (fun H locs hP hD hS => ?_)
    have hP : va_P (dC, dI) classes (wm g1 g2 g3 g4 g5 g6 g7 aM m1 m2 m3 m4 m5 m6 m7 d n kd ht tk (upd so i ((toneK 7 d (ht i) (tk i) (σ.1, tb 5 σ.2)).2).1) lt sto ni ac bl ((toneK 7 d (ht i) (tk i) (σ.1, tb 5 σ.2)).2).2) H := hP
    have hD : va_D A (wm g1 g2 g3 g4 g5 g6 g7 aM m1 m2 m3 m4 m5 m6 m7 d n kd ht tk (upd so i ((toneK 7 d (ht i) (tk i) (σ.1, tb 5 σ.2)).2).1) lt sto ni ac bl ((toneK 7 d (ht i) (tk i) (σ.1, tb 5 σ.2)).2).2) := hD
    refine lv_iload_n hx hb d_M_horn_34 rfl (lv_at hl 2 rfl) ?_
    refine lv_imul hx hb d_M_horn_35 ?_
    refine lv_istore_n (lv' := [(3, .int (((toneK 7 d (ht i) (tk i) (σ.1, tb 5 σ.2)).1) * x)), (0, .ref aM), (1, .int (nI i)), (2, .int x)]) hx hb d_M_horn_36 rfl hl (by decide) rfl (fun ls hl => ?_)
    refine lv_iload_n hx hb d_M_horn_37 rfl (lv_at hl 0 rfl) ?_
    refine lv_aload_n hx hb d_M_horn_38 rfl (lv_at hl 1 rfl) ?_
    refine lv_iload_n hx hb d_M_horn_39 rfl (lv_at hl 2 rfl) ?_
    refine lv_iconst (v := 0) hx hb d_M_horn_40 (by decide) ?_
    refine zcV (As := [.int (nI i), .int 0]) (rest := [.int (((toneK 7 d (ht i) (tk i) (σ.1, tb 5 σ.2)).1) * x)]) (ci := 11) E cy_M_reach kw_694 ks_15 kw_692 (c_M_reach l dC dI g1 g2 g3 g4 g5 g6 g7 A aM m1 m2 m3 m4 m5 m6 m7 d n kd ht tk so lt sto ni ac bl i hi ((toneK 7 d (ht i) (tk i) (σ.1, tb 5 σ.2)).2) 7 (by decide) hkd 0) hK hP hD hS 0 rfl zC_M.1 rfl rfl hl.1 rfl (Nat.le_of_ble_eq_true rfl) ⟨Nat.le_of_ble_eq_true rfl, Nat.le_of_ble_eq_true rfl⟩ d_M_horn_41 ⟨Nat.le_refl _, Nat.le_refl _⟩ (fun H locs hP hD hS => ?_)
    have hP : va_P (dC, dI) classes (wm g1 g2 g3 g4 g5 g6 g7 aM m1 m2 m3 m4 m5 m6 m7 d n kd ht tk (upd so i ((reachK 7 d (ht i) 0 ((toneK 7 d (ht i) (tk i) (σ.1, tb 5 σ.2)).2)).2).1) lt sto ni ac bl ((reachK 7 d (ht i) 0 ((toneK 7 d (ht i) (tk i) (σ.1, tb 5 σ.2)).2)).2).2) H := hP
    have hD : va_D A (wm g1 g2 g3 g4 g5 g6 g7 aM m1 m2 m3 m4 m5 m6 m7 d n kd ht tk (upd so i ((reachK 7 d (ht i) 0 ((toneK 7 d (ht i) (tk i) (σ.1, tb 5 σ.2)).2)).2).1) lt sto ni ac bl ((reachK 7 d (ht i) 0 ((toneK 7 d (ht i) (tk i) (σ.1, tb 5 σ.2)).2)).2).2) := hD
    refine lv_iadd hx hb d_M_horn_44 ?_
    exact zri E hK hP hD hS d_M_horn_45
  · rw [show hornK 8 d (ht i) (tk i) x σ = ((toneK 8 d (ht i) (tk i) (σ.1, tb 5 σ.2)).1 * x + (reachK 8 d (ht i) 0 (toneK 8 d (ht i) (tk i) (σ.1, tb 5 σ.2)).2).1, (reachK 8 d (ht i) 0 (toneK 8 d (ht i) (tk i) (σ.1, tb 5 σ.2)).2).2) from rfl]
    dsimp only
    refine zM_of "CoastLampsModel" rfl (by decide) (Nat.le_of_ble_eq_true rfl) ?_
    intro p e s m below meth c ls E hP hK hD hS hl
    obtain ⟨hx, hb, hml, ho, hts, hr, hlk⟩ := id E
    have hl : lv_has ls 4 [(0, .ref aM), (1, .int (nI i)), (2, .int x)] := hl
    refine lv_aload_n hx hb d_M_horn_0 rfl (lv_at hl 0 rfl) ?_
    refine zget (ci := 11) (fs := [.ref m1, .int (nI n), .ref m2, .ref m3, .ref m4, .ref m5, .ref m6, .long sto, .int ni, .int ac, .int bl, .ref m7, .int (nI σ.2.2.1)]) E hK hP 0 rfl zC_M 2 (by decide) kw_592 (Or.inl rfl) rfl d_M_horn_1 ?_
    refine lv_iload_n hx hb d_M_horn_4 rfl (lv_at hl 1 rfl) ?_
    refine va_iald hx hb hK hP 2 1 rfl rfl (vp_in_nI hi (by decide)) d_M_horn_5 ?_
    rw [nI_clamp (i31 hi)]
    rw [hkd]
    refine lv_iconst (v := 5) hx hb d_M_horn_6 (by decide) ?_
    refine lv_icmp_ne (tgt := 24) hx hb d_M_horn_7 (by decide) (fun _ => ?_) (fun h9 => absurd h9 (by decide))
    refine lv_aload_n hx hb d_M_horn_24 rfl (lv_at hl 0 rfl) ?_
    refine lv_iconst (v := 5) hx hb d_M_horn_25 (by decide) ?_
    refine zcV (As := [.int 5]) (rest := []) (ci := 11) E cy_M_begins kw_670 ks_9 kw_668 (c_M_begins l dC dI g1 g2 g3 g4 g5 g6 g7 A aM m1 m2 m3 m4 m5 m6 m7 d n kd ht tk (upd so i σ.1) lt sto ni ac bl σ.2 5) hK hP hD hS 0 rfl zC_M.1 rfl rfl hl.1 rfl (Nat.le_of_ble_eq_true rfl) ⟨Nat.le_of_ble_eq_true rfl, Nat.le_of_ble_eq_true rfl⟩ d_M_horn_26 ⟨Nat.le_refl _, Nat.le_refl _⟩ (fun H locs hP hD hS => ?_)
    have hP : va_P (dC, dI) classes (wm g1 g2 g3 g4 g5 g6 g7 aM m1 m2 m3 m4 m5 m6 m7 d n kd ht tk (upd so i (σ.1, tb 5 σ.2).1) lt sto ni ac bl (σ.1, tb 5 σ.2).2) H := hP
    have hD : va_D A (wm g1 g2 g3 g4 g5 g6 g7 aM m1 m2 m3 m4 m5 m6 m7 d n kd ht tk (upd so i (σ.1, tb 5 σ.2).1) lt sto ni ac bl (σ.1, tb 5 σ.2).2) := hD
    refine lv_aload_n hx hb d_M_horn_29 rfl (lv_at hl 0 rfl) ?_
    refine lv_iload_n hx hb d_M_horn_30 rfl (lv_at hl 1 rfl) ?_
    refine zcV (As := [.int (nI i)]) (rest := []) (ci := 11) E cy_M_tone kw_794 ks_40 kw_792 (c_M_tone l dC dI g1 g2 g3 g4 g5 g6 g7 A aM m1 m2 m3 m4 m5 m6 m7 d n kd ht tk so lt sto ni ac bl i hi (σ.1, tb 5 σ.2) 8 (by decide) hkd (by decide)) hK hP hD hS 0 rfl zC_M.1 rfl rfl hl.1 rfl (Nat.le_of_ble_eq_true rfl) ⟨Nat.le_of_ble_eq_true rfl, Nat.le_of_ble_eq_true rfl⟩ d_M_horn_31 ⟨Nat.le_refl _, Nat.le_refl _⟩ (fun H locs hP hD hS => ?_)
    have hP : va_P (dC, dI) classes (wm g1 g2 g3 g4 g5 g6 g7 aM m1 m2 m3 m4 m5 m6 m7 d n kd ht tk (upd so i ((toneK 8 d (ht i) (tk i) (σ.1, tb 5 σ.2)).2).1) lt sto ni ac bl ((toneK 8 d (ht i) (tk i) (σ.1, tb 5 σ.2)).2).2) H := hP
    have hD : va_D A (wm g1 g2 g3 g4 g5 g6 g7 aM m1 m2 m3 m4 m5 m6 m7 d n kd ht tk (upd so i ((toneK 8 d (ht i) (tk i) (σ.1, tb 5 σ.2)).2).1) lt sto ni ac bl ((toneK 8 d (ht i) (tk i) (σ.1, tb 5 σ.2)).2).2) := hD
    refine lv_iload_n hx hb d_M_horn_34 rfl (lv_at hl 2 rfl) ?_
    refine lv_imul hx hb d_M_horn_35 ?_
    refine lv_istore_n (lv' := [(3, .int (((toneK 8 d (ht i) (tk i) (σ.1, tb 5 σ.2)).1) * x)), (0, .ref aM), (1, .int (nI i)), (2, .int x)]) hx hb d_M_horn_36 rfl hl (by decide) rfl (fun ls hl => ?_)
    refine lv_iload_n hx hb d_M_horn_37 rfl (lv_at hl 0 rfl) ?_
    refine lv_aload_n hx hb d_M_horn_38 rfl (lv_at hl 1 rfl) ?_
    refine lv_iload_n hx hb d_M_horn_39 rfl (lv_at hl 2 rfl) ?_
    refine lv_iconst (v := 0) hx hb d_M_horn_40 (by decide) ?_
    refine zcV (As := [.int (nI i), .int 0]) (rest := [.int (((toneK 8 d (ht i) (tk i) (σ.1, tb 5 σ.2)).1) * x)]) (ci := 11) E cy_M_reach kw_694 ks_15 kw_692 (c_M_reach l dC dI g1 g2 g3 g4 g5 g6 g7 A aM m1 m2 m3 m4 m5 m6 m7 d n kd ht tk so lt sto ni ac bl i hi ((toneK 8 d (ht i) (tk i) (σ.1, tb 5 σ.2)).2) 8 (by decide) hkd 0) hK hP hD hS 0 rfl zC_M.1 rfl rfl hl.1 rfl (Nat.le_of_ble_eq_true rfl) ⟨Nat.le_of_ble_eq_true rfl, Nat.le_of_ble_eq_true rfl⟩ d_M_horn_41 ⟨Nat.le_refl _, Nat.le_refl _⟩ (fun H locs hP hD hS => ?_)
    have hP : va_P (dC, dI) classes (wm g1 g2 g3 g4 g5 g6 g7 aM m1 m2 m3 m4 m5 m6 m7 d n kd ht tk (upd so i ((reachK 8 d (ht i) 0 ((toneK 8 d (ht i) (tk i) (σ.1, tb 5 σ.2)).2)).2).1) lt sto ni ac bl ((reachK 8 d (ht i) 0 ((toneK 8 d (ht i) (tk i) (σ.1, tb 5 σ.2)).2)).2).2) H := hP
    have hD : va_D A (wm g1 g2 g3 g4 g5 g6 g7 aM m1 m2 m3 m4 m5 m6 m7 d n kd ht tk (upd so i ((reachK 8 d (ht i) 0 ((toneK 8 d (ht i) (tk i) (σ.1, tb 5 σ.2)).2)).2).1) lt sto ni ac bl ((reachK 8 d (ht i) 0 ((toneK 8 d (ht i) (tk i) (σ.1, tb 5 σ.2)).2)).2).2) := hD
    refine lv_iadd hx hb d_M_horn_44 ?_
    exact zri E hK hP hD hS d_M_horn_45
set_option maxHeartbeats 1000000 in
set_option maxRecDepth 100000 in
theorem c_M_isHorned (l : Launch) (dC : Nat → ClassId) (dI : Nat → Nat → Nat) (g1 g2 g3 g4 g5 g6 g7 : ClassId) (A : Nat → Prop) (aM m1 m2 m3 m4 m5 m6 m7 : Nat) (d : Nat → Int32) (n : Nat) (kd ht tk so lt : Nat → Int32) (sto : Int64) (ni ac bl : Int32) (t : zT) (i : Nat) (hi : i < 60) (k : Nat) (hk : k < 9) (hkd : kd i = nI (k + 1)) : zM l y_M_isHorned b_M_isHorned 2 (some (FieldType.boolean)) 1 22 [.ref aM, .int (nI i)] (dC, dI) (t7 g1 g2 g3 g4 g5 g6 g7) A (wm g1 g2 g3 g4 g5 g6 g7 aM m1 m2 m3 m4 m5 m6 m7 d n kd ht tk so lt sto ni ac bl t) (wm g1 g2 g3 g4 g5 g6 g7 aM m1 m2 m3 m4 m5 m6 m7 d n kd ht tk so lt sto ni ac bl t) (some (.int (zb (hornedK k)))) := by
  rcases (show k = 0 ∨ k = 1 ∨ k = 2 ∨ k = 3 ∨ k = 4 ∨ k = 5 ∨ k = 6 ∨ k = 7 ∨ k = 8 by omega) with rfl | rfl | rfl | rfl | rfl | rfl | rfl | rfl | rfl
  · refine zM_of "CoastLampsModel" rfl (by decide) (Nat.le_of_ble_eq_true rfl) ?_
    intro p e s m below meth c ls E hP hK hD hS hl
    obtain ⟨hx, hb, hml, ho, hts, hr, hlk⟩ := id E
    have hl : lv_has ls 2 [(0, .ref aM), (1, .int (nI i))] := hl
    refine lv_aload_n hx hb d_M_isHorned_0 rfl (lv_at hl 0 rfl) ?_
    refine zget (ci := 11) (fs := [.ref m1, .int (nI n), .ref m2, .ref m3, .ref m4, .ref m5, .ref m6, .long sto, .int ni, .int ac, .int bl, .ref m7, .int (nI t.2.1)]) E hK hP 0 rfl zC_M 2 (by decide) kw_592 (Or.inl rfl) rfl d_M_isHorned_1 ?_
    refine lv_iload_n hx hb d_M_isHorned_4 rfl (lv_at hl 1 rfl) ?_
    refine va_iald hx hb hK hP 2 1 rfl rfl (vp_in_nI hi (by decide)) d_M_isHorned_5 ?_
    rw [nI_clamp (i31 hi)]
    rw [hkd]
    refine lv_iconst (v := 3) hx hb d_M_isHorned_6 (by decide) ?_
    refine lv_iconst (v := 5) hx hb d_M_isHorned_7 (by decide) ?_
    refine zcS (As := [.int (nI (0 + 1)), .int 3, .int 5]) (rest := []) E cy_M_in kw_636 kw_635 rfl (c_M_in l dC dI (t7 g1 g2 g3 g4 g5 g6 g7) A (wm g1 g2 g3 g4 g5 g6 g7 aM m1 m2 m3 m4 m5 m6 m7 d n kd ht tk so lt sto ni ac bl t) (nI (0 + 1)) 3 5) hK hP hD hS rfl hl.1 rfl (Nat.le_of_ble_eq_true rfl) ⟨Nat.le_of_ble_eq_true rfl, Nat.le_of_ble_eq_true rfl⟩ d_M_isHorned_8 ⟨Nat.le_refl _, Nat.le_refl _⟩ (fun H locs hP hD hS => ?_)
    rw [show zb (decide (3 ≤ nI (0 + 1) ∧ nI (0 + 1) ≤ 5)) = 0 from by rw [decide_eq_false (by decide)]; rfl]
    refine lv_if_ne (tgt := 25) hx hb d_M_isHorned_11 (by decide) (fun h9 => absurd (rfl) h9) (fun _ => ?_)
    refine lv_aload_n hx hb d_M_isHorned_14 rfl (lv_at hl 0 rfl) ?_
    refine zget (ci := 11) (fs := [.ref m1, .int (nI n), .ref m2, .ref m3, .ref m4, .ref m5, .ref m6, .long sto, .int ni, .int ac, .int bl, .ref m7, .int (nI t.2.1)]) E hK hP 0 rfl zC_M 2 (by decide) kw_592 (Or.inl rfl) rfl d_M_isHorned_15 ?_
    refine lv_iload_n hx hb d_M_isHorned_18 rfl (lv_at hl 1 rfl) ?_
    refine va_iald hx hb hK hP 2 1 rfl rfl (vp_in_nI hi (by decide)) d_M_isHorned_19 ?_
    rw [nI_clamp (i31 hi)]
    rw [hkd]
    refine lv_bipush (v := 6) hx hb d_M_isHorned_20 (by decide) ?_
    refine lv_icmp_le (tgt := 29) hx hb d_M_isHorned_22 (by decide) (fun _ => ?_) (fun h9 => absurd (by decide) h9)
    refine lv_iconst (v := 0) hx hb d_M_isHorned_29 (by decide) ?_
    exact zrz E hK hP hD hS rfl d_M_isHorned_30
  · refine zM_of "CoastLampsModel" rfl (by decide) (Nat.le_of_ble_eq_true rfl) ?_
    intro p e s m below meth c ls E hP hK hD hS hl
    obtain ⟨hx, hb, hml, ho, hts, hr, hlk⟩ := id E
    have hl : lv_has ls 2 [(0, .ref aM), (1, .int (nI i))] := hl
    refine lv_aload_n hx hb d_M_isHorned_0 rfl (lv_at hl 0 rfl) ?_
    refine zget (ci := 11) (fs := [.ref m1, .int (nI n), .ref m2, .ref m3, .ref m4, .ref m5, .ref m6, .long sto, .int ni, .int ac, .int bl, .ref m7, .int (nI t.2.1)]) E hK hP 0 rfl zC_M 2 (by decide) kw_592 (Or.inl rfl) rfl d_M_isHorned_1 ?_
    refine lv_iload_n hx hb d_M_isHorned_4 rfl (lv_at hl 1 rfl) ?_
    refine va_iald hx hb hK hP 2 1 rfl rfl (vp_in_nI hi (by decide)) d_M_isHorned_5 ?_
    rw [nI_clamp (i31 hi)]
    rw [hkd]
    refine lv_iconst (v := 3) hx hb d_M_isHorned_6 (by decide) ?_
    refine lv_iconst (v := 5) hx hb d_M_isHorned_7 (by decide) ?_
    refine zcS (As := [.int (nI (1 + 1)), .int 3, .int 5]) (rest := []) E cy_M_in kw_636 kw_635 rfl (c_M_in l dC dI (t7 g1 g2 g3 g4 g5 g6 g7) A (wm g1 g2 g3 g4 g5 g6 g7 aM m1 m2 m3 m4 m5 m6 m7 d n kd ht tk so lt sto ni ac bl t) (nI (1 + 1)) 3 5) hK hP hD hS rfl hl.1 rfl (Nat.le_of_ble_eq_true rfl) ⟨Nat.le_of_ble_eq_true rfl, Nat.le_of_ble_eq_true rfl⟩ d_M_isHorned_8 ⟨Nat.le_refl _, Nat.le_refl _⟩ (fun H locs hP hD hS => ?_)
    rw [show zb (decide (3 ≤ nI (1 + 1) ∧ nI (1 + 1) ≤ 5)) = 0 from by rw [decide_eq_false (by decide)]; rfl]
    refine lv_if_ne (tgt := 25) hx hb d_M_isHorned_11 (by decide) (fun h9 => absurd (rfl) h9) (fun _ => ?_)
    refine lv_aload_n hx hb d_M_isHorned_14 rfl (lv_at hl 0 rfl) ?_
    refine zget (ci := 11) (fs := [.ref m1, .int (nI n), .ref m2, .ref m3, .ref m4, .ref m5, .ref m6, .long sto, .int ni, .int ac, .int bl, .ref m7, .int (nI t.2.1)]) E hK hP 0 rfl zC_M 2 (by decide) kw_592 (Or.inl rfl) rfl d_M_isHorned_15 ?_
    refine lv_iload_n hx hb d_M_isHorned_18 rfl (lv_at hl 1 rfl) ?_
    refine va_iald hx hb hK hP 2 1 rfl rfl (vp_in_nI hi (by decide)) d_M_isHorned_19 ?_
    rw [nI_clamp (i31 hi)]
    rw [hkd]
    refine lv_bipush (v := 6) hx hb d_M_isHorned_20 (by decide) ?_
    refine lv_icmp_le (tgt := 29) hx hb d_M_isHorned_22 (by decide) (fun _ => ?_) (fun h9 => absurd (by decide) h9)
    refine lv_iconst (v := 0) hx hb d_M_isHorned_29 (by decide) ?_
    exact zrz E hK hP hD hS rfl d_M_isHorned_30
  · refine zM_of "CoastLampsModel" rfl (by decide) (Nat.le_of_ble_eq_true rfl) ?_
    intro p e s m below meth c ls E hP hK hD hS hl
    obtain ⟨hx, hb, hml, ho, hts, hr, hlk⟩ := id E
    have hl : lv_has ls 2 [(0, .ref aM), (1, .int (nI i))] := hl
    refine lv_aload_n hx hb d_M_isHorned_0 rfl (lv_at hl 0 rfl) ?_
    refine zget (ci := 11) (fs := [.ref m1, .int (nI n), .ref m2, .ref m3, .ref m4, .ref m5, .ref m6, .long sto, .int ni, .int ac, .int bl, .ref m7, .int (nI t.2.1)]) E hK hP 0 rfl zC_M 2 (by decide) kw_592 (Or.inl rfl) rfl d_M_isHorned_1 ?_
    refine lv_iload_n hx hb d_M_isHorned_4 rfl (lv_at hl 1 rfl) ?_
    refine va_iald hx hb hK hP 2 1 rfl rfl (vp_in_nI hi (by decide)) d_M_isHorned_5 ?_
    rw [nI_clamp (i31 hi)]
    rw [hkd]
    refine lv_iconst (v := 3) hx hb d_M_isHorned_6 (by decide) ?_
    refine lv_iconst (v := 5) hx hb d_M_isHorned_7 (by decide) ?_
    refine zcS (As := [.int (nI (2 + 1)), .int 3, .int 5]) (rest := []) E cy_M_in kw_636 kw_635 rfl (c_M_in l dC dI (t7 g1 g2 g3 g4 g5 g6 g7) A (wm g1 g2 g3 g4 g5 g6 g7 aM m1 m2 m3 m4 m5 m6 m7 d n kd ht tk so lt sto ni ac bl t) (nI (2 + 1)) 3 5) hK hP hD hS rfl hl.1 rfl (Nat.le_of_ble_eq_true rfl) ⟨Nat.le_of_ble_eq_true rfl, Nat.le_of_ble_eq_true rfl⟩ d_M_isHorned_8 ⟨Nat.le_refl _, Nat.le_refl _⟩ (fun H locs hP hD hS => ?_)
    rw [show zb (decide (3 ≤ nI (2 + 1) ∧ nI (2 + 1) ≤ 5)) = 1 from by rw [decide_eq_true (by decide)]; rfl]
    refine lv_if_ne (tgt := 25) hx hb d_M_isHorned_11 (by decide) (fun _ => ?_) (fun h9 => absurd h9 (by decide))
    refine lv_iconst (v := 1) hx hb d_M_isHorned_25 (by decide) ?_
    refine lv_goto (tgt := 30) hx hb d_M_isHorned_26 (by decide) ?_
    exact zrz E hK hP hD hS rfl d_M_isHorned_30
  · refine zM_of "CoastLampsModel" rfl (by decide) (Nat.le_of_ble_eq_true rfl) ?_
    intro p e s m below meth c ls E hP hK hD hS hl
    obtain ⟨hx, hb, hml, ho, hts, hr, hlk⟩ := id E
    have hl : lv_has ls 2 [(0, .ref aM), (1, .int (nI i))] := hl
    refine lv_aload_n hx hb d_M_isHorned_0 rfl (lv_at hl 0 rfl) ?_
    refine zget (ci := 11) (fs := [.ref m1, .int (nI n), .ref m2, .ref m3, .ref m4, .ref m5, .ref m6, .long sto, .int ni, .int ac, .int bl, .ref m7, .int (nI t.2.1)]) E hK hP 0 rfl zC_M 2 (by decide) kw_592 (Or.inl rfl) rfl d_M_isHorned_1 ?_
    refine lv_iload_n hx hb d_M_isHorned_4 rfl (lv_at hl 1 rfl) ?_
    refine va_iald hx hb hK hP 2 1 rfl rfl (vp_in_nI hi (by decide)) d_M_isHorned_5 ?_
    rw [nI_clamp (i31 hi)]
    rw [hkd]
    refine lv_iconst (v := 3) hx hb d_M_isHorned_6 (by decide) ?_
    refine lv_iconst (v := 5) hx hb d_M_isHorned_7 (by decide) ?_
    refine zcS (As := [.int (nI (3 + 1)), .int 3, .int 5]) (rest := []) E cy_M_in kw_636 kw_635 rfl (c_M_in l dC dI (t7 g1 g2 g3 g4 g5 g6 g7) A (wm g1 g2 g3 g4 g5 g6 g7 aM m1 m2 m3 m4 m5 m6 m7 d n kd ht tk so lt sto ni ac bl t) (nI (3 + 1)) 3 5) hK hP hD hS rfl hl.1 rfl (Nat.le_of_ble_eq_true rfl) ⟨Nat.le_of_ble_eq_true rfl, Nat.le_of_ble_eq_true rfl⟩ d_M_isHorned_8 ⟨Nat.le_refl _, Nat.le_refl _⟩ (fun H locs hP hD hS => ?_)
    rw [show zb (decide (3 ≤ nI (3 + 1) ∧ nI (3 + 1) ≤ 5)) = 1 from by rw [decide_eq_true (by decide)]; rfl]
    refine lv_if_ne (tgt := 25) hx hb d_M_isHorned_11 (by decide) (fun _ => ?_) (fun h9 => absurd h9 (by decide))
    refine lv_iconst (v := 1) hx hb d_M_isHorned_25 (by decide) ?_
    refine lv_goto (tgt := 30) hx hb d_M_isHorned_26 (by decide) ?_
    exact zrz E hK hP hD hS rfl d_M_isHorned_30
  · refine zM_of "CoastLampsModel" rfl (by decide) (Nat.le_of_ble_eq_true rfl) ?_
    intro p e s m below meth c ls E hP hK hD hS hl
    obtain ⟨hx, hb, hml, ho, hts, hr, hlk⟩ := id E
    have hl : lv_has ls 2 [(0, .ref aM), (1, .int (nI i))] := hl
    refine lv_aload_n hx hb d_M_isHorned_0 rfl (lv_at hl 0 rfl) ?_
    refine zget (ci := 11) (fs := [.ref m1, .int (nI n), .ref m2, .ref m3, .ref m4, .ref m5, .ref m6, .long sto, .int ni, .int ac, .int bl, .ref m7, .int (nI t.2.1)]) E hK hP 0 rfl zC_M 2 (by decide) kw_592 (Or.inl rfl) rfl d_M_isHorned_1 ?_
    refine lv_iload_n hx hb d_M_isHorned_4 rfl (lv_at hl 1 rfl) ?_
    refine va_iald hx hb hK hP 2 1 rfl rfl (vp_in_nI hi (by decide)) d_M_isHorned_5 ?_
    rw [nI_clamp (i31 hi)]
    rw [hkd]
    refine lv_iconst (v := 3) hx hb d_M_isHorned_6 (by decide) ?_
    refine lv_iconst (v := 5) hx hb d_M_isHorned_7 (by decide) ?_
    refine zcS (As := [.int (nI (4 + 1)), .int 3, .int 5]) (rest := []) E cy_M_in kw_636 kw_635 rfl (c_M_in l dC dI (t7 g1 g2 g3 g4 g5 g6 g7) A (wm g1 g2 g3 g4 g5 g6 g7 aM m1 m2 m3 m4 m5 m6 m7 d n kd ht tk so lt sto ni ac bl t) (nI (4 + 1)) 3 5) hK hP hD hS rfl hl.1 rfl (Nat.le_of_ble_eq_true rfl) ⟨Nat.le_of_ble_eq_true rfl, Nat.le_of_ble_eq_true rfl⟩ d_M_isHorned_8 ⟨Nat.le_refl _, Nat.le_refl _⟩ (fun H locs hP hD hS => ?_)
    rw [show zb (decide (3 ≤ nI (4 + 1) ∧ nI (4 + 1) ≤ 5)) = 1 from by rw [decide_eq_true (by decide)]; rfl]
    refine lv_if_ne (tgt := 25) hx hb d_M_isHorned_11 (by decide) (fun _ => ?_) (fun h9 => absurd h9 (by decide))
    refine lv_iconst (v := 1) hx hb d_M_isHorned_25 (by decide) ?_
    refine lv_goto (tgt := 30) hx hb d_M_isHorned_26 (by decide) ?_
    exact zrz E hK hP hD hS rfl d_M_isHorned_30
  · refine zM_of "CoastLampsModel" rfl (by decide) (Nat.le_of_ble_eq_true rfl) ?_
    intro p e s m below meth c ls E hP hK hD hS hl
    obtain ⟨hx, hb, hml, ho, hts, hr, hlk⟩ := id E
    have hl : lv_has ls 2 [(0, .ref aM), (1, .int (nI i))] := hl
    refine lv_aload_n hx hb d_M_isHorned_0 rfl (lv_at hl 0 rfl) ?_
    refine zget (ci := 11) (fs := [.ref m1, .int (nI n), .ref m2, .ref m3, .ref m4, .ref m5, .ref m6, .long sto, .int ni, .int ac, .int bl, .ref m7, .int (nI t.2.1)]) E hK hP 0 rfl zC_M 2 (by decide) kw_592 (Or.inl rfl) rfl d_M_isHorned_1 ?_
    refine lv_iload_n hx hb d_M_isHorned_4 rfl (lv_at hl 1 rfl) ?_
    refine va_iald hx hb hK hP 2 1 rfl rfl (vp_in_nI hi (by decide)) d_M_isHorned_5 ?_
    rw [nI_clamp (i31 hi)]
    rw [hkd]
    refine lv_iconst (v := 3) hx hb d_M_isHorned_6 (by decide) ?_
    refine lv_iconst (v := 5) hx hb d_M_isHorned_7 (by decide) ?_
    refine zcS (As := [.int (nI (5 + 1)), .int 3, .int 5]) (rest := []) E cy_M_in kw_636 kw_635 rfl (c_M_in l dC dI (t7 g1 g2 g3 g4 g5 g6 g7) A (wm g1 g2 g3 g4 g5 g6 g7 aM m1 m2 m3 m4 m5 m6 m7 d n kd ht tk so lt sto ni ac bl t) (nI (5 + 1)) 3 5) hK hP hD hS rfl hl.1 rfl (Nat.le_of_ble_eq_true rfl) ⟨Nat.le_of_ble_eq_true rfl, Nat.le_of_ble_eq_true rfl⟩ d_M_isHorned_8 ⟨Nat.le_refl _, Nat.le_refl _⟩ (fun H locs hP hD hS => ?_)
    rw [show zb (decide (3 ≤ nI (5 + 1) ∧ nI (5 + 1) ≤ 5)) = 0 from by rw [decide_eq_false (by decide)]; rfl]
    refine lv_if_ne (tgt := 25) hx hb d_M_isHorned_11 (by decide) (fun h9 => absurd (rfl) h9) (fun _ => ?_)
    refine lv_aload_n hx hb d_M_isHorned_14 rfl (lv_at hl 0 rfl) ?_
    refine zget (ci := 11) (fs := [.ref m1, .int (nI n), .ref m2, .ref m3, .ref m4, .ref m5, .ref m6, .long sto, .int ni, .int ac, .int bl, .ref m7, .int (nI t.2.1)]) E hK hP 0 rfl zC_M 2 (by decide) kw_592 (Or.inl rfl) rfl d_M_isHorned_15 ?_
    refine lv_iload_n hx hb d_M_isHorned_18 rfl (lv_at hl 1 rfl) ?_
    refine va_iald hx hb hK hP 2 1 rfl rfl (vp_in_nI hi (by decide)) d_M_isHorned_19 ?_
    rw [nI_clamp (i31 hi)]
    rw [hkd]
    refine lv_bipush (v := 6) hx hb d_M_isHorned_20 (by decide) ?_
    refine lv_icmp_le (tgt := 29) hx hb d_M_isHorned_22 (by decide) (fun _ => ?_) (fun h9 => absurd (by decide) h9)
    refine lv_iconst (v := 0) hx hb d_M_isHorned_29 (by decide) ?_
    exact zrz E hK hP hD hS rfl d_M_isHorned_30
  · refine zM_of "CoastLampsModel" rfl (by decide) (Nat.le_of_ble_eq_true rfl) ?_
    intro p e s m below meth c ls E hP hK hD hS hl
    obtain ⟨hx, hb, hml, ho, hts, hr, hlk⟩ := id E
    have hl : lv_has ls 2 [(0, .ref aM), (1, .int (nI i))] := hl
    refine lv_aload_n hx hb d_M_isHorned_0 rfl (lv_at hl 0 rfl) ?_
    refine zget (ci := 11) (fs := [.ref m1, .int (nI n), .ref m2, .ref m3, .ref m4, .ref m5, .ref m6, .long sto, .int ni, .int ac, .int bl, .ref m7, .int (nI t.2.1)]) E hK hP 0 rfl zC_M 2 (by decide) kw_592 (Or.inl rfl) rfl d_M_isHorned_1 ?_
    refine lv_iload_n hx hb d_M_isHorned_4 rfl (lv_at hl 1 rfl) ?_
    refine va_iald hx hb hK hP 2 1 rfl rfl (vp_in_nI hi (by decide)) d_M_isHorned_5 ?_
    rw [nI_clamp (i31 hi)]
    rw [hkd]
    refine lv_iconst (v := 3) hx hb d_M_isHorned_6 (by decide) ?_
    refine lv_iconst (v := 5) hx hb d_M_isHorned_7 (by decide) ?_
    refine zcS (As := [.int (nI (6 + 1)), .int 3, .int 5]) (rest := []) E cy_M_in kw_636 kw_635 rfl (c_M_in l dC dI (t7 g1 g2 g3 g4 g5 g6 g7) A (wm g1 g2 g3 g4 g5 g6 g7 aM m1 m2 m3 m4 m5 m6 m7 d n kd ht tk so lt sto ni ac bl t) (nI (6 + 1)) 3 5) hK hP hD hS rfl hl.1 rfl (Nat.le_of_ble_eq_true rfl) ⟨Nat.le_of_ble_eq_true rfl, Nat.le_of_ble_eq_true rfl⟩ d_M_isHorned_8 ⟨Nat.le_refl _, Nat.le_refl _⟩ (fun H locs hP hD hS => ?_)
    rw [show zb (decide (3 ≤ nI (6 + 1) ∧ nI (6 + 1) ≤ 5)) = 0 from by rw [decide_eq_false (by decide)]; rfl]
    refine lv_if_ne (tgt := 25) hx hb d_M_isHorned_11 (by decide) (fun h9 => absurd (rfl) h9) (fun _ => ?_)
    refine lv_aload_n hx hb d_M_isHorned_14 rfl (lv_at hl 0 rfl) ?_
    refine zget (ci := 11) (fs := [.ref m1, .int (nI n), .ref m2, .ref m3, .ref m4, .ref m5, .ref m6, .long sto, .int ni, .int ac, .int bl, .ref m7, .int (nI t.2.1)]) E hK hP 0 rfl zC_M 2 (by decide) kw_592 (Or.inl rfl) rfl d_M_isHorned_15 ?_
    refine lv_iload_n hx hb d_M_isHorned_18 rfl (lv_at hl 1 rfl) ?_
    refine va_iald hx hb hK hP 2 1 rfl rfl (vp_in_nI hi (by decide)) d_M_isHorned_19 ?_
    rw [nI_clamp (i31 hi)]
    rw [hkd]
    refine lv_bipush (v := 6) hx hb d_M_isHorned_20 (by decide) ?_
    refine lv_icmp_le (tgt := 29) hx hb d_M_isHorned_22 (by decide) (fun h9 => absurd h9 (by decide)) (fun _ => ?_)
    refine lv_iconst (v := 1) hx hb d_M_isHorned_25 (by decide) ?_
    refine lv_goto (tgt := 30) hx hb d_M_isHorned_26 (by decide) ?_
    exact zrz E hK hP hD hS rfl d_M_isHorned_30
  · refine zM_of "CoastLampsModel" rfl (by decide) (Nat.le_of_ble_eq_true rfl) ?_
    intro p e s m below meth c ls E hP hK hD hS hl
    obtain ⟨hx, hb, hml, ho, hts, hr, hlk⟩ := id E
    have hl : lv_has ls 2 [(0, .ref aM), (1, .int (nI i))] := hl
    refine lv_aload_n hx hb d_M_isHorned_0 rfl (lv_at hl 0 rfl) ?_
    refine zget (ci := 11) (fs := [.ref m1, .int (nI n), .ref m2, .ref m3, .ref m4, .ref m5, .ref m6, .long sto, .int ni, .int ac, .int bl, .ref m7, .int (nI t.2.1)]) E hK hP 0 rfl zC_M 2 (by decide) kw_592 (Or.inl rfl) rfl d_M_isHorned_1 ?_
    refine lv_iload_n hx hb d_M_isHorned_4 rfl (lv_at hl 1 rfl) ?_
    refine va_iald hx hb hK hP 2 1 rfl rfl (vp_in_nI hi (by decide)) d_M_isHorned_5 ?_
    rw [nI_clamp (i31 hi)]
    rw [hkd]
    refine lv_iconst (v := 3) hx hb d_M_isHorned_6 (by decide) ?_
    refine lv_iconst (v := 5) hx hb d_M_isHorned_7 (by decide) ?_
    refine zcS (As := [.int (nI (7 + 1)), .int 3, .int 5]) (rest := []) E cy_M_in kw_636 kw_635 rfl (c_M_in l dC dI (t7 g1 g2 g3 g4 g5 g6 g7) A (wm g1 g2 g3 g4 g5 g6 g7 aM m1 m2 m3 m4 m5 m6 m7 d n kd ht tk so lt sto ni ac bl t) (nI (7 + 1)) 3 5) hK hP hD hS rfl hl.1 rfl (Nat.le_of_ble_eq_true rfl) ⟨Nat.le_of_ble_eq_true rfl, Nat.le_of_ble_eq_true rfl⟩ d_M_isHorned_8 ⟨Nat.le_refl _, Nat.le_refl _⟩ (fun H locs hP hD hS => ?_)
    rw [show zb (decide (3 ≤ nI (7 + 1) ∧ nI (7 + 1) ≤ 5)) = 0 from by rw [decide_eq_false (by decide)]; rfl]
    refine lv_if_ne (tgt := 25) hx hb d_M_isHorned_11 (by decide) (fun h9 => absurd (rfl) h9) (fun _ => ?_)
    refine lv_aload_n hx hb d_M_isHorned_14 rfl (lv_at hl 0 rfl) ?_
    refine zget (ci := 11) (fs := [.ref m1, .int (nI n), .ref m2, .ref m3, .ref m4, .ref m5, .ref m6, .long sto, .int ni, .int ac, .int bl, .ref m7, .int (nI t.2.1)]) E hK hP 0 rfl zC_M 2 (by decide) kw_592 (Or.inl rfl) rfl d_M_isHorned_15 ?_
    refine lv_iload_n hx hb d_M_isHorned_18 rfl (lv_at hl 1 rfl) ?_
    refine va_iald hx hb hK hP 2 1 rfl rfl (vp_in_nI hi (by decide)) d_M_isHorned_19 ?_
    rw [nI_clamp (i31 hi)]
    rw [hkd]
    refine lv_bipush (v := 6) hx hb d_M_isHorned_20 (by decide) ?_
    refine lv_icmp_le (tgt := 29) hx hb d_M_isHorned_22 (by decide) (fun h9 => absurd h9 (by decide)) (fun _ => ?_)
    refine lv_iconst (v := 1) hx hb d_M_isHorned_25 (by decide) ?_
    refine lv_goto (tgt := 30) hx hb d_M_isHorned_26 (by decide) ?_
    exact zrz E hK hP hD hS rfl d_M_isHorned_30
  · refine zM_of "CoastLampsModel" rfl (by decide) (Nat.le_of_ble_eq_true rfl) ?_
    intro p e s m below meth c ls E hP hK hD hS hl
    obtain ⟨hx, hb, hml, ho, hts, hr, hlk⟩ := id E
    have hl : lv_has ls 2 [(0, .ref aM), (1, .int (nI i))] := hl
    refine lv_aload_n hx hb d_M_isHorned_0 rfl (lv_at hl 0 rfl) ?_
    refine zget (ci := 11) (fs := [.ref m1, .int (nI n), .ref m2, .ref m3, .ref m4, .ref m5, .ref m6, .long sto, .int ni, .int ac, .int bl, .ref m7, .int (nI t.2.1)]) E hK hP 0 rfl zC_M 2 (by decide) kw_592 (Or.inl rfl) rfl d_M_isHorned_1 ?_
    refine lv_iload_n hx hb d_M_isHorned_4 rfl (lv_at hl 1 rfl) ?_
    refine va_iald hx hb hK hP 2 1 rfl rfl (vp_in_nI hi (by decide)) d_M_isHorned_5 ?_
    rw [nI_clamp (i31 hi)]
    rw [hkd]
    refine lv_iconst (v := 3) hx hb d_M_isHorned_6 (by decide) ?_
    refine lv_iconst (v := 5) hx hb d_M_isHorned_7 (by decide) ?_
    refine zcS (As := [.int (nI (8 + 1)), .int 3, .int 5]) (rest := []) E cy_M_in kw_636 kw_635 rfl (c_M_in l dC dI (t7 g1 g2 g3 g4 g5 g6 g7) A (wm g1 g2 g3 g4 g5 g6 g7 aM m1 m2 m3 m4 m5 m6 m7 d n kd ht tk so lt sto ni ac bl t) (nI (8 + 1)) 3 5) hK hP hD hS rfl hl.1 rfl (Nat.le_of_ble_eq_true rfl) ⟨Nat.le_of_ble_eq_true rfl, Nat.le_of_ble_eq_true rfl⟩ d_M_isHorned_8 ⟨Nat.le_refl _, Nat.le_refl _⟩ (fun H locs hP hD hS => ?_)
    rw [show zb (decide (3 ≤ nI (8 + 1) ∧ nI (8 + 1) ≤ 5)) = 0 from by rw [decide_eq_false (by decide)]; rfl]
    refine lv_if_ne (tgt := 25) hx hb d_M_isHorned_11 (by decide) (fun h9 => absurd (rfl) h9) (fun _ => ?_)
    refine lv_aload_n hx hb d_M_isHorned_14 rfl (lv_at hl 0 rfl) ?_
    refine zget (ci := 11) (fs := [.ref m1, .int (nI n), .ref m2, .ref m3, .ref m4, .ref m5, .ref m6, .long sto, .int ni, .int ac, .int bl, .ref m7, .int (nI t.2.1)]) E hK hP 0 rfl zC_M 2 (by decide) kw_592 (Or.inl rfl) rfl d_M_isHorned_15 ?_
    refine lv_iload_n hx hb d_M_isHorned_18 rfl (lv_at hl 1 rfl) ?_
    refine va_iald hx hb hK hP 2 1 rfl rfl (vp_in_nI hi (by decide)) d_M_isHorned_19 ?_
    rw [nI_clamp (i31 hi)]
    rw [hkd]
    refine lv_bipush (v := 6) hx hb d_M_isHorned_20 (by decide) ?_
    refine lv_icmp_le (tgt := 29) hx hb d_M_isHorned_22 (by decide) (fun h9 => absurd h9 (by decide)) (fun _ => ?_)
    refine lv_iconst (v := 1) hx hb d_M_isHorned_25 (by decide) ?_
    refine lv_goto (tgt := 30) hx hb d_M_isHorned_26 (by decide) ?_
    exact zrz E hK hP hD hS rfl d_M_isHorned_30
