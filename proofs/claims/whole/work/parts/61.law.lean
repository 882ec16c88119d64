set_option maxHeartbeats 1000000 in
set_option maxRecDepth 100000 in
/-- the law's loop: both sides hold the same state -/
theorem law_loop {p : Program} {e : Env} {s : State} {m : MethodId} {below : List Frame} {meth : Method} {c : Code} (l : Launch) {b L : Nat} {xs : Nat → Int32} (hL : L ≤ 2048) (C0 : lw_At p s m meth c b L xs) (hB : zB s) (dC : Nat → ClassId) (dI : Nat → Nat → Nat) (c1 c2 c3 g1 g2 g3 g4 g5 g6 g7 : ClassId) (aX aC aD aE aA aM m1 m2 m3 m4 m5 m6 m7 : Nat) (hAM : ∀ q, zAM aM m1 m2 m3 m4 m5 m6 m7 q → (fun q : Nat => s.heap.size ≤ q) q) (hKx : va_K (dC, dI) classes (t3 c1 c2 c3) s) (hKm : va_K (dC, dI) classes (t7 g1 g2 g3 g4 g5 g6 g7) s) :
    ∀ (q j : Nat) (S : zA) (ad : Nat → Nat) (H : Heap) (locs : List Loc) (ls : Array Slot), L ≤ 4 * j + 4 * q → j ≤ 512 → zInv S → va_P (dC, dI) classes (xW c1 c2 c3 aX aC aD aE aA ad S) H → va_D (zAX s.heap.size aM m1 m2 m3 m4 m5 m6 m7) (xW c1 c2 c3 aX aC aD aE aA ad S) → va_P (dC, dI) classes (mW g1 g2 g3 g4 g5 g6 g7 aM m1 m2 m3 m4 m5 m6 m7 S) H → va_D (zAM aM m1 m2 m3 m4 m5 m6 m7) (mW g1 g2 g3 g4 g5 g6 g7 aM m1 m2 m3 m4 m5 m6 m7 S) → va_S (fun q : Nat => s.heap.size ≤ q) s.heap H locs → lv_has ls 4 [(3, .int (nI (4 * j))), (2, .ref aM), (1, .ref aX), (0, .ref b)] → W p l e room_1 s m #[Value.ref b] below meth c H locs (13 + j) (2399 + 6 * j) (lw_Z below #[Value.ref b] s) (F0 m 18 ls []) := by
  obtain ⟨hx, hb, hr, hml, hown, hts0, hX, hbl, hlocks, hgv⟩ := id C0
  have hbA : ¬ (fun q : Nat => s.heap.size ≤ q) b := Nat.not_le.mpr hbl
  have E : zE p s m #[Value.ref b] meth c "CoastLampsLaw" code 4 ret := ⟨hx, hb, hml, hown, fun w h => hts0 w (tbl_in h), hr, hlocks⟩
  intro q
  induction q with
  | zero =>
    intro j S ad H locs ls hq hj hI hPx hDx hPm hDm hS hl
    refine lv_iload_n hx hb d_L_law_18 rfl (lv_at hl 0 rfl) ?_
    refine lv_aload_n hx hb d_L_law_19 rfl (lv_at hl 3 rfl) ?_
    refine va_slen hx hb hX hbl hbA hS d_L_law_20 ?_
    refine lv_iconst (v := 4) hx hb d_L_law_21 (by decide) ?_
    refine lv_isub hx hb d_L_law_22 ?_
    refine lv_icmp_gt (tgt := 512) hx hb d_L_law_23 (by decide) (fun _ => ?_) (fun h9 => absurd (lw_end hL hj (by omega)) h9)
    refine lv_iconst (v := 1) hx hb d_L_law_512 (by decide) ?_
    refine va_forget (fun q hq => hS.2.2 q hq) ?_
    refine W.widen (k := 600000) (n := 7302250) (by omega) (by omega) ?_
    exact lw_ret hx hb hr hlocks d_L_law_513
  | succ q ih =>
    intro j S ad H locs ls hq hj hI hPx hDx hPm hDm hS hl
    refine lv_iload_n hx hb d_L_law_18 rfl (lv_at hl 0 rfl) ?_
    refine lv_aload_n hx hb d_L_law_19 rfl (lv_at hl 3 rfl) ?_
    refine va_slen hx hb hX hbl hbA hS d_L_law_20 ?_
    refine lv_iconst (v := 4) hx hb d_L_law_21 (by decide) ?_
    refine lv_isub hx hb d_L_law_22 ?_
    by_cases hgo : 4 * j + 4 ≤ L
    · refine lv_icmp_gt (tgt := 512) hx hb d_L_law_23 (by decide) (fun h9 => absurd h9 (lw_go hL hgo)) (fun _ => ?_)
      refine lv_aload_n hx hb d_L_law_26 rfl (lv_at hl 3 rfl) ?_
      refine lv_iload_n hx hb d_L_law_27 rfl (lv_at hl 0 rfl) ?_
      refine va_sld hx hb hX hbl hbA hS (vp_in_nI (show 4 * j < L by omega) (by omega)) d_L_law_28 ?_
      rw [nI_clamp (show 4 * j < 2 ^ 31 by omega)]
      refine lv_bipush (v := 15) hx hb d_L_law_29 (by decide) ?_
      refine lv_iand hx hb d_L_law_31 ?_
      obtain ⟨cq, hcq, ecq⟩ := pk_andE (xs (4 * j)) (m := 15) 4 (by decide)
      rw [ecq]
      obtain ⟨d, n, kk, ht, tk, so, lt, sto, ni, ac, bl, t⟩ := S
      clear ecq
      rcases (show cq = 0 ∨ cq = 1 ∨ cq = 2 ∨ cq = 3 ∨ cq = 4 ∨ cq = 5 ∨ cq = 6 ∨ cq = 7 ∨ cq = 8 ∨ cq = 9 ∨ cq = 10 ∨ cq = 11 ∨ cq = 12 ∨ cq = 13 ∨ cq = 14 ∨ cq = 15 by omega) with rfl | rfl | rfl | rfl | rfl | rfl | rfl | rfl | rfl | rfl | rfl | rfl | rfl | rfl | rfl | rfl
      · refine lv_tableIn (off := 72) (tgt := 104) hx hb d_L_law_32 (by decide) (by decide) (by decide) (by decide) ?_
        refine lv_aload_n hx hb d_L_law_104 rfl (lv_at hl 2 rfl) ?_
        refine lv_aload_n hx hb d_L_law_105 rfl (lv_at hl 3 rfl) ?_
        refine lv_iload_n hx hb d_L_law_106 rfl (lv_at hl 0 rfl) ?_
        refine lv_iconst (v := 1) hx hb d_L_law_107 (by decide) ?_
        refine lv_iadd hx hb d_L_law_108 ?_
        rw [nI_1 (4 * j)]
        refine va_sld hx hb hX hbl hbA hS (vp_in_nI (show 4 * j + 1 < L by omega) (by omega)) d_L_law_109 ?_
        rw [nI_clamp (show 4 * j + 1 < 2 ^ 31 by omega)]
        refine lv_aload_n hx hb d_L_law_110 rfl (lv_at hl 3 rfl) ?_
        refine lv_iload_n hx hb d_L_law_111 rfl (lv_at hl 0 rfl) ?_
        refine lv_iconst (v := 2) hx hb d_L_law_112 (by decide) ?_
        refine lv_iadd hx hb d_L_law_113 ?_
        rw [nI_p2 (4 * j)]
        refine va_sld hx hb hX hbl hbA hS (vp_in_nI (show 4 * j + 2 < L by omega) (by omega)) d_L_law_114 ?_
        rw [nI_clamp (show 4 * j + 2 < 2 ^ 31 by omega)]
        refine zcL (As := [.int (xs (4 * j + 1)), .int (xs (4 * j + 2))]) (rest := []) (ci := 10) E cy_X_dial kw_66 kw_67 kw_65 (c_X_dial l dC dI c1 c2 c3 (zAX s.heap.size aM m1 m2 m3 m4 m5 m6 m7) aX aC aD aE aA ad d n kk ht tk so lt sto ni ac bl t hI (xs (4 * j + 1)) (xs (4 * j + 2))) hKx hPx hDx hS (fun _ h => h.1) 3 rfl zC_X.1 rfl rfl hl.1 rfl (Nat.le_of_ble_eq_true rfl) ⟨Nat.le_of_ble_eq_true rfl, Nat.le_of_ble_eq_true rfl⟩ d_L_law_115 ⟨show 13 + j ≤ 600000 by omega, show 2399 + 6 * j ≤ 7302250 by omega⟩ (fun H1 locs hPx hDx hk9 hS => ?_)
        have hPm := keepM hPm hDm hk9
        clear hk9
        refine lv_aload_n hx hb d_L_law_118 rfl (lv_at hl 1 rfl) ?_
        refine lv_aload_n hx hb d_L_law_119 rfl (lv_at hl 3 rfl) ?_
        refine lv_iload_n hx hb d_L_law_120 rfl (lv_at hl 0 rfl) ?_
        refine lv_iconst (v := 1) hx hb d_L_law_121 (by decide) ?_
        refine lv_iadd hx hb d_L_law_122 ?_
        rw [nI_1 (4 * j)]
        refine va_sld hx hb hX hbl hbA hS (vp_in_nI (show 4 * j + 1 < L by omega) (by omega)) d_L_law_123 ?_
        rw [nI_clamp (show 4 * j + 1 < 2 ^ 31 by omega)]
        refine lv_aload_n hx hb d_L_law_124 rfl (lv_at hl 3 rfl) ?_
        refine lv_iload_n hx hb d_L_law_125 rfl (lv_at hl 0 rfl) ?_
        refine lv_iconst (v := 2) hx hb d_L_law_126 (by decide) ?_
        refine lv_iadd hx hb d_L_law_127 ?_
        rw [nI_p2 (4 * j)]
        refine va_sld hx hb hX hbl hbA hS (vp_in_nI (show 4 * j + 2 < L by omega) (by omega)) d_L_law_128 ?_
        rw [nI_clamp (show 4 * j + 2 < 2 ^ 31 by omega)]
        refine zcL (As := [.int (xs (4 * j + 1)), .int (xs (4 * j + 2))]) (rest := [.int ((dialA (d, n, kk, ht, tk, so, lt, sto, ni, ac, bl, t) (xs (4 * j + 1)) (xs (4 * j + 2))).1)]) (ci := 11) E cy_M_dial kw_632 kw_633 kw_631 (c_M_dial l dC dI g1 g2 g3 g4 g5 g6 g7 (zAM aM m1 m2 m3 m4 m5 m6 m7) aM m1 m2 m3 m4 m5 m6 m7 d n kk ht tk so lt sto ni ac bl t hI (xs (4 * j + 1)) (xs (4 * j + 2))) hKm hPm hDm hS hAM 0 rfl zC_M.1 rfl rfl hl.1 rfl (Nat.le_of_ble_eq_true rfl) ⟨Nat.le_of_ble_eq_true rfl, Nat.le_of_ble_eq_true rfl⟩ d_L_law_129 ⟨show 13 + j ≤ 600000 by omega, show 2399 + 6 * j ≤ 7302250 by omega⟩ (fun H2 locs hPm hDm hk9 hS => ?_)
        have hPx := keepX hPx hDx hk9
        refine lv_icmp_eq (tgt := 506) hx hb d_L_law_132 (by decide) (fun _ => ?_) (fun h9 => absurd (rfl) h9)
        refine lv_iinc (v := nI (4 * (j + 1))) (lv' := [(3, .int (nI (4 * (j + 1)))), (2, .ref aM), (1, .ref aX), (0, .ref b)]) hx hb d_L_law_506 hl (k := 0) rfl (nI_p4 j) (by decide) rfl (fun ls hl => ?_)
        refine lv_goto (tgt := 18) hx hb d_L_law_509 (by decide) ?_
        refine W.widen (k := 13 + (j + 1)) (n := 2399 + 6 * (j + 1)) (by omega) (by omega) ?_
        exact ih (j + 1) ((dialA (d, n, kk, ht, tk, so, lt, sto, ni, ac, bl, t) (xs (4 * j + 1)) (xs (4 * j + 2))).2) ad _ _ ls (by omega) (by omega) (inv_dial hI (xs (4 * j + 1)) (xs (4 * j + 2))) hPx hDx hPm hDm hS (lv_sub hl [0, 1, 2, 3] rfl)
      · refine lv_tableIn (off := 105) (tgt := 137) hx hb d_L_law_32 (by decide) (by decide) (by decide) (by decide) ?_
        refine lv_aload_n hx hb d_L_law_137 rfl (lv_at hl 2 rfl) ?_
        refine lv_aload_n hx hb d_L_law_138 rfl (lv_at hl 3 rfl) ?_
        refine lv_iload_n hx hb d_L_law_139 rfl (lv_at hl 0 rfl) ?_
        refine lv_iconst (v := 1) hx hb d_L_law_140 (by decide) ?_
        refine lv_iadd hx hb d_L_law_141 ?_
        rw [nI_1 (4 * j)]
        refine va_sld hx hb hX hbl hbA hS (vp_in_nI (show 4 * j + 1 < L by omega) (by omega)) d_L_law_142 ?_
        rw [nI_clamp (show 4 * j + 1 < 2 ^ 31 by omega)]
        refine lv_aload_n hx hb d_L_law_143 rfl (lv_at hl 3 rfl) ?_
        refine lv_iload_n hx hb d_L_law_144 rfl (lv_at hl 0 rfl) ?_
        refine lv_iconst (v := 2) hx hb d_L_law_145 (by decide) ?_
        refine lv_iadd hx hb d_L_law_146 ?_
        rw [nI_p2 (4 * j)]
        refine va_sld hx hb hX hbl hbA hS (vp_in_nI (show 4 * j + 2 < L by omega) (by omega)) d_L_law_147 ?_
        rw [nI_clamp (show 4 * j + 2 < 2 ^ 31 by omega)]
        refine zcVA (As := [.int (xs (4 * j + 1)), .int (xs (4 * j + 2))]) (rest := []) (ci := 10) E hB cy_X_lamp kw_81 kw_82 kw_80 (c_X_lamp l dC dI c1 c2 c3 (zAX s.heap.size aM m1 m2 m3 m4 m5 m6 m7) aX aC aD aE aA ad d n kk ht tk so lt sto ni ac bl t hI (xs (4 * j + 1)) (xs (4 * j + 2))) hKx hPx hDx hS (fun q h => ⟨Nat.le_trans hS.1 h, fun z => absurd (am_lt hPm z) (Nat.not_lt.mpr h)⟩) (fun _ h => h.1) 3 rfl zC_X.1 rfl rfl hl.1 rfl (Nat.le_of_ble_eq_true rfl) ⟨Nat.le_of_ble_eq_true rfl, Nat.le_of_ble_eq_true rfl⟩ d_L_law_148 ⟨show 13 + j + 1 ≤ 600000 by omega, show 2399 + 6 * j + 6 ≤ 7302250 by omega⟩ (fun rv t9 H1 locs ht9 hvm hp hz9 hk9 hS => ?_)
        obtain ⟨rfl, ad2, hPx, hKx9, hDx⟩ := hp
        rw [ht9] at hPx
        have hPm := keepM hPm hDm hk9
        clear hk9
        refine lv_aload_n hx hb d_L_law_151 rfl (lv_at hl 1 rfl) ?_
        refine lv_aload_n hx hb d_L_law_152 rfl (lv_at hl 3 rfl) ?_
        refine lv_iload_n hx hb d_L_law_153 rfl (lv_at hl 0 rfl) ?_
        refine lv_iconst (v := 1) hx hb d_L_law_154 (by decide) ?_
        refine lv_iadd hx hb d_L_law_155 ?_
        rw [nI_1 (4 * j)]
        refine va_sld hx hb hX hbl hbA hS (vp_in_nI (show 4 * j + 1 < L by omega) (by omega)) d_L_law_156 ?_
        rw [nI_clamp (show 4 * j + 1 < 2 ^ 31 by omega)]
        refine lv_aload_n hx hb d_L_law_157 rfl (lv_at hl 3 rfl) ?_
        refine lv_iload_n hx hb d_L_law_158 rfl (lv_at hl 0 rfl) ?_
        refine lv_iconst (v := 2) hx hb d_L_law_159 (by decide) ?_
        refine lv_iadd hx hb d_L_law_160 ?_
        rw [nI_p2 (4 * j)]
        refine va_sld hx hb hX hbl hbA hS (vp_in_nI (show 4 * j + 2 < L by omega) (by omega)) d_L_law_161 ?_
        rw [nI_clamp (show 4 * j + 2 < 2 ^ 31 by omega)]
        refine zcL (As := [.int (xs (4 * j + 1)), .int (xs (4 * j + 2))]) (rest := [.int ((lampA (d, n, kk, ht, tk, so, lt, sto, ni, ac, bl, t) (xs (4 * j + 1)) (xs (4 * j + 2))).1)]) (ci := 11) E cy_M_lamp kw_639 kw_640 kw_638 (c_M_lamp l dC dI g1 g2 g3 g4 g5 g6 g7 (zAM aM m1 m2 m3 m4 m5 m6 m7) aM m1 m2 m3 m4 m5 m6 m7 d n kk ht tk so lt sto ni ac bl t hI (xs (4 * j + 1)) (xs (4 * j + 2))) hKm hPm hDm hS hAM 0 rfl zC_M.1 rfl rfl hl.1 rfl (Nat.le_of_ble_eq_true rfl) ⟨Nat.le_of_ble_eq_true rfl, Nat.le_of_ble_eq_true rfl⟩ d_L_law_162 ⟨show 13 + j + 1 ≤ 600000 by omega, show 2399 + 6 * j + 6 ≤ 7302250 by omega⟩ (fun H2 locs hPm hDm hk9 hS => ?_)
        have hPx := keepX hPx hDx hk9
        refine lv_icmp_eq (tgt := 506) hx hb d_L_law_165 (by decide) (fun _ => ?_) (fun h9 => absurd (rfl) h9)
        refine lv_iinc (v := nI (4 * (j + 1))) (lv' := [(3, .int (nI (4 * (j + 1)))), (2, .ref aM), (1, .ref aX), (0, .ref b)]) hx hb d_L_law_506 hl (k := 0) rfl (nI_p4 j) (by decide) rfl (fun ls hl => ?_)
        refine lv_goto (tgt := 18) hx hb d_L_law_509 (by decide) ?_
        refine W.widen (k := 13 + (j + 1)) (n := 2399 + 6 * (j + 1)) (by omega) (by omega) ?_
        exact ih (j + 1) ((lampA (d, n, kk, ht, tk, so, lt, sto, ni, ac, bl, t) (xs (4 * j + 1)) (xs (4 * j + 2))).2) ad2 _ _ ls (by omega) (by omega) (inv_lamp hI (xs (4 * j + 1)) (xs (4 * j + 2))) hPx hDx hPm hDm hS (lv_sub hl [0, 1, 2, 3] rfl)
      · refine lv_tableIn (off := 138) (tgt := 170) hx hb d_L_law_32 (by decide) (by decide) (by decide) (by decide) ?_
        refine lv_aload_n hx hb d_L_law_170 rfl (lv_at hl 2 rfl) ?_
        refine lv_aload_n hx hb d_L_law_171 rfl (lv_at hl 3 rfl) ?_
        refine lv_iload_n hx hb d_L_law_172 rfl (lv_at hl 0 rfl) ?_
        refine lv_iconst (v := 1) hx hb d_L_law_173 (by decide) ?_
        refine lv_iadd hx hb d_L_law_174 ?_
        rw [nI_1 (4 * j)]
        refine va_sld hx hb hX hbl hbA hS (vp_in_nI (show 4 * j + 1 < L by omega) (by omega)) d_L_law_175 ?_
        rw [nI_clamp (show 4 * j + 1 < 2 ^ 31 by omega)]
        refine lv_aload_n hx hb d_L_law_176 rfl (lv_at hl 3 rfl) ?_
        refine lv_iload_n hx hb d_L_law_177 rfl (lv_at hl 0 rfl) ?_
        refine lv_iconst (v := 2) hx hb d_L_law_178 (by decide) ?_
        refine lv_iadd hx hb d_L_law_179 ?_
        rw [nI_p2 (4 * j)]
        refine va_sld hx hb hX hbl hbA hS (vp_in_nI (show 4 * j + 2 < L by omega) (by omega)) d_L_law_180 ?_
        rw [nI_clamp (show 4 * j + 2 < 2 ^ 31 by omega)]
        refine lv_aload_n hx hb d_L_law_181 rfl (lv_at hl 3 rfl) ?_
        refine lv_iload_n hx hb d_L_law_182 rfl (lv_at hl 0 rfl) ?_
        refine lv_iconst (v := 3) hx hb d_L_law_183 (by decide) ?_
        refine lv_iadd hx hb d_L_law_184 ?_
        rw [nI_p3 (4 * j)]
        refine va_sld hx hb hX hbl hbA hS (vp_in_nI (show 4 * j + 3 < L by omega) (by omega)) d_L_law_185 ?_
        rw [nI_clamp (show 4 * j + 3 < 2 ^ 31 by omega)]
        refine zcL (As := [.int (xs (4 * j + 1)), .int (xs (4 * j + 2)), .int (xs (4 * j + 3))]) (rest := []) (ci := 10) E cy_X_ask kw_252 kw_253 kw_251 (c_X_ask l dC dI c1 c2 c3 (zAX s.heap.size aM m1 m2 m3 m4 m5 m6 m7) aX aC aD aE aA ad d n kk ht tk so lt sto ni ac bl t hI (xs (4 * j + 1)) (xs (4 * j + 2)) (xs (4 * j + 3))) hKx hPx hDx hS (fun _ h => h.1) 3 rfl zC_X.1 rfl rfl hl.1 rfl (Nat.le_of_ble_eq_true rfl) ⟨Nat.le_of_ble_eq_true rfl, Nat.le_of_ble_eq_true rfl⟩ d_L_law_186 ⟨show 13 + j ≤ 600000 by omega, show 2399 + 6 * j ≤ 7302250 by omega⟩ (fun H1 locs hPx hDx hk9 hS => ?_)
        have hPm := keepM hPm hDm hk9
        clear hk9
        refine lv_aload_n hx hb d_L_law_189 rfl (lv_at hl 1 rfl) ?_
        refine lv_aload_n hx hb d_L_law_190 rfl (lv_at hl 3 rfl) ?_
        refine lv_iload_n hx hb d_L_law_191 rfl (lv_at hl 0 rfl) ?_
        refine lv_iconst (v := 1) hx hb d_L_law_192 (by decide) ?_
        refine lv_iadd hx hb d_L_law_193 ?_
        rw [nI_1 (4 * j)]
        refine va_sld hx hb hX hbl hbA hS (vp_in_nI (show 4 * j + 1 < L by omega) (by omega)) d_L_law_194 ?_
        rw [nI_clamp (show 4 * j + 1 < 2 ^ 31 by omega)]
        refine lv_aload_n hx hb d_L_law_195 rfl (lv_at hl 3 rfl) ?_
        refine lv_iload_n hx hb d_L_law_196 rfl (lv_at hl 0 rfl) ?_
        refine lv_iconst (v := 2) hx hb d_L_law_197 (by decide) ?_
        refine lv_iadd hx hb d_L_law_198 ?_
        rw [nI_p2 (4 * j)]
        refine va_sld hx hb hX hbl hbA hS (vp_in_nI (show 4 * j + 2 < L by omega) (by omega)) d_L_law_199 ?_
        rw [nI_clamp (show 4 * j + 2 < 2 ^ 31 by omega)]
        refine lv_aload_n hx hb d_L_law_200 rfl (lv_at hl 3 rfl) ?_
        refine lv_iload_n hx hb d_L_law_201 rfl (lv_at hl 0 rfl) ?_
        refine lv_iconst (v := 3) hx hb d_L_law_202 (by decide) ?_
        refine lv_iadd hx hb d_L_law_203 ?_
        rw [nI_p3 (4 * j)]
        refine va_sld hx hb hX hbl hbA hS (vp_in_nI (show 4 * j + 3 < L by omega) (by omega)) d_L_law_204 ?_
        rw [nI_clamp (show 4 * j + 3 < 2 ^ 31 by omega)]
        refine zcL (As := [.int (xs (4 * j + 1)), .int (xs (4 * j + 2)), .int (xs (4 * j + 3))]) (rest := [.long ((askA (d, n, kk, ht, tk, so, lt, sto, ni, ac, bl, t) (xs (4 * j + 1)) (xs (4 * j + 2)) (xs (4 * j + 3))).1)]) (ci := 11) E cy_M_ask kw_643 kw_644 kw_642 (c_M_ask l dC dI g1 g2 g3 g4 g5 g6 g7 (zAM aM m1 m2 m3 m4 m5 m6 m7) aM m1 m2 m3 m4 m5 m6 m7 d n kk ht tk so lt sto ni ac bl t hI (xs (4 * j + 1)) (xs (4 * j + 2)) (xs (4 * j + 3))) hKm hPm hDm hS hAM 0 rfl zC_M.1 rfl rfl hl.1 rfl (Nat.le_of_ble_eq_true rfl) ⟨Nat.le_of_ble_eq_true rfl, Nat.le_of_ble_eq_true rfl⟩ d_L_law_205 ⟨show 13 + j ≤ 600000 by omega, show 2399 + 6 * j ≤ 7302250 by omega⟩ (fun H2 locs hPm hDm hk9 hS => ?_)
        have hPx := keepX hPx hDx hk9
        refine W.lcmp hx hb d_L_law_208 ?_
        rw [lg_cmp_self]
        refine lv_if_eq (tgt := 506) hx hb d_L_law_209 (by decide) (fun _ => ?_) (fun h9 => absurd (rfl) h9)
        refine lv_iinc (v := nI (4 * (j + 1))) (lv' := [(3, .int (nI (4 * (j + 1)))), (2, .ref aM), (1, .ref aX), (0, .ref b)]) hx hb d_L_law_506 hl (k := 0) rfl (nI_p4 j) (by decide) rfl (fun ls hl => ?_)
        refine lv_goto (tgt := 18) hx hb d_L_law_509 (by decide) ?_
        refine W.widen (k := 13 + (j + 1)) (n := 2399 + 6 * (j + 1)) (by omega) (by omega) ?_
        exact ih (j + 1) ((askA (d, n, kk, ht, tk, so, lt, sto, ni, ac, bl, t) (xs (4 * j + 1)) (xs (4 * j + 2)) (xs (4 * j + 3))).2) ad _ _ ls (by omega) (by omega) (inv_ask hI (xs (4 * j + 1)) (xs (4 * j + 2)) (xs (4 * j + 3))) hPx hDx hPm hDm hS (lv_sub hl [0, 1, 2, 3] rfl)
      · refine lv_tableIn (off := 182) (tgt := 214) hx hb d_L_law_32 (by decide) (by decide) (by decide) (by decide) ?_
        refine lv_aload_n hx hb d_L_law_214 rfl (lv_at hl 2 rfl) ?_
        refine lv_aload_n hx hb d_L_law_215 rfl (lv_at hl 3 rfl) ?_
        refine lv_iload_n hx hb d_L_law_216 rfl (lv_at hl 0 rfl) ?_
        refine lv_iconst (v := 1) hx hb d_L_law_217 (by decide) ?_
        refine lv_iadd hx hb d_L_law_218 ?_
        rw [nI_1 (4 * j)]
        refine va_sld hx hb hX hbl hbA hS (vp_in_nI (show 4 * j + 1 < L by omega) (by omega)) d_L_law_219 ?_
        rw [nI_clamp (show 4 * j + 1 < 2 ^ 31 by omega)]
        refine zcL (As := [.int (xs (4 * j + 1))]) (rest := []) (ci := 10) E cy_X_trace kw_517 kw_518 kw_516 (c_X_trace l dC dI c1 c2 c3 (zAX s.heap.size aM m1 m2 m3 m4 m5 m6 m7) aX aC aD aE aA ad d n kk ht tk so lt sto ni ac bl t hI (xs (4 * j + 1))) hKx hPx hDx hS (fun _ h => h.1) 3 rfl zC_X.1 rfl rfl hl.1 rfl (Nat.le_of_ble_eq_true rfl) ⟨Nat.le_of_ble_eq_true rfl, Nat.le_of_ble_eq_true rfl⟩ d_L_law_220 ⟨show 13 + j ≤ 600000 by omega, show 2399 + 6 * j ≤ 7302250 by omega⟩ (fun H1 locs hPx hDx hk9 hS => ?_)
        have hPm := keepM hPm hDm hk9
        clear hk9
        refine lv_aload_n hx hb d_L_law_223 rfl (lv_at hl 1 rfl) ?_
        refine lv_aload_n hx hb d_L_law_224 rfl (lv_at hl 3 rfl) ?_
        refine lv_iload_n hx hb d_L_law_225 rfl (lv_at hl 0 rfl) ?_
        refine lv_iconst (v := 1) hx hb d_L_law_226 (by decide) ?_
        refine lv_iadd hx hb d_L_law_227 ?_
        rw [nI_1 (4 * j)]
        refine va_sld hx hb hX hbl hbA hS (vp_in_nI (show 4 * j + 1 < L by omega) (by omega)) d_L_law_228 ?_
        rw [nI_clamp (show 4 * j + 1 < 2 ^ 31 by omega)]
        refine zcL (As := [.int (xs (4 * j + 1))]) (rest := [.int (traceA (d, n, kk, ht, tk, so, lt, sto, ni, ac, bl, t) (xs (4 * j + 1)))]) (ci := 11) E cy_M_trace kw_813 kw_814 kw_812 (c_M_trace l dC dI g1 g2 g3 g4 g5 g6 g7 (zAM aM m1 m2 m3 m4 m5 m6 m7) aM m1 m2 m3 m4 m5 m6 m7 d n kk ht tk so lt sto ni ac bl t hI (xs (4 * j + 1))) hKm hPm hDm hS hAM 0 rfl zC_M.1 rfl rfl hl.1 rfl (Nat.le_of_ble_eq_true rfl) ⟨Nat.le_of_ble_eq_true rfl, Nat.le_of_ble_eq_true rfl⟩ d_L_law_229 ⟨show 13 + j ≤ 600000 by omega, show 2399 + 6 * j ≤ 7302250 by omega⟩ (fun H2 locs hPm hDm hk9 hS => ?_)
        have hPx := keepX hPx hDx hk9
        refine lv_icmp_eq (tgt := 506) hx hb d_L_law_232 (by decide) (fun _ => ?_) (fun h9 => absurd (rfl) h9)
        refine lv_iinc (v := nI (4 * (j + 1))) (lv' := [(3, .int (nI (4 * (j + 1)))), (2, .ref aM), (1, .ref aX), (0, .ref b)]) hx hb d_L_law_506 hl (k := 0) rfl (nI_p4 j) (by decide) rfl (fun ls hl => ?_)
        refine lv_goto (tgt := 18) hx hb d_L_law_509 (by decide) ?_
        refine W.widen (k := 13 + (j + 1)) (n := 2399 + 6 * (j + 1)) (by omega) (by omega) ?_
        exact ih (j + 1) ((d, n, kk, ht, tk, so, lt, sto, ni, ac, bl, t)) ad _ _ ls (by omega) (by omega) hI hPx hDx hPm hDm hS (lv_sub hl [0, 1, 2, 3] rfl)
      · refine lv_tableIn (off := 205) (tgt := 237) hx hb d_L_law_32 (by decide) (by decide) (by decide) (by decide) ?_
        refine lv_aload_n hx hb d_L_law_237 rfl (lv_at hl 2 rfl) ?_
        refine lv_aload_n hx hb d_L_law_238 rfl (lv_at hl 3 rfl) ?_
        refine lv_iload_n hx hb d_L_law_239 rfl (lv_at hl 0 rfl) ?_
        refine lv_iconst (v := 1) hx hb d_L_law_240 (by decide) ?_
        refine lv_iadd hx hb d_L_law_241 ?_
        rw [nI_1 (4 * j)]
        refine va_sld hx hb hX hbl hbA hS (vp_in_nI (show 4 * j + 1 < L by omega) (by omega)) d_L_law_242 ?_
        rw [nI_clamp (show 4 * j + 1 < 2 ^ 31 by omega)]
        refine zcL (As := [.int (xs (4 * j + 1))]) (rest := []) (ci := 10) E cy_X_haul kw_525 kw_526 kw_524 (c_X_haul l dC dI c1 c2 c3 (zAX s.heap.size aM m1 m2 m3 m4 m5 m6 m7) aX aC aD aE aA ad d n kk ht tk so lt sto ni ac bl t hI (xs (4 * j + 1))) hKx hPx hDx hS (fun _ h => h.1) 3 rfl zC_X.1 rfl rfl hl.1 rfl (Nat.le_of_ble_eq_true rfl) ⟨Nat.le_of_ble_eq_true rfl, Nat.le_of_ble_eq_true rfl⟩ d_L_law_243 ⟨show 13 + j ≤ 600000 by omega, show 2399 + 6 * j ≤ 7302250 by omega⟩ (fun H1 locs hPx hDx hk9 hS => ?_)
        have hPm := keepM hPm hDm hk9
        clear hk9
        refine lv_aload_n hx hb d_L_law_246 rfl (lv_at hl 1 rfl) ?_
        refine lv_aload_n hx hb d_L_law_247 rfl (lv_at hl 3 rfl) ?_
        refine lv_iload_n hx hb d_L_law_248 rfl (lv_at hl 0 rfl) ?_
        refine lv_iconst (v := 1) hx hb d_L_law_249 (by decide) ?_
        refine lv_iadd hx hb d_L_law_250 ?_
        rw [nI_1 (4 * j)]
        refine va_sld hx hb hX hbl hbA hS (vp_in_nI (show 4 * j + 1 < L by omega) (by omega)) d_L_law_251 ?_
        rw [nI_clamp (show 4 * j + 1 < 2 ^ 31 by omega)]
        refine zcL (As := [.int (xs (4 * j + 1))]) (rest := [.long ((haulA (d, n, kk, ht, tk, so, lt, sto, ni, ac, bl, t) (xs (4 * j + 1))).1)]) (ci := 11) E cy_M_haul kw_817 kw_818 kw_816 (c_M_haul l dC dI g1 g2 g3 g4 g5 g6 g7 (zAM aM m1 m2 m3 m4 m5 m6 m7) aM m1 m2 m3 m4 m5 m6 m7 d n kk ht tk so lt sto ni ac bl t hI (xs (4 * j + 1))) hKm hPm hDm hS hAM 0 rfl zC_M.1 rfl rfl hl.1 rfl (Nat.le_of_ble_eq_true rfl) ⟨Nat.le_of_ble_eq_true rfl, Nat.le_of_ble_eq_true rfl⟩ d_L_law_252 ⟨show 13 + j ≤ 600000 by omega, show 2399 + 6 * j ≤ 7302250 by omega⟩ (fun H2 locs hPm hDm hk9 hS => ?_)
        have hPx := keepX hPx hDx hk9
        refine W.lcmp hx hb d_L_law_255 ?_
        rw [lg_cmp_self]
        refine lv_if_eq (tgt := 506) hx hb d_L_law_256 (by decide) (fun _ => ?_) (fun h9 => absurd (rfl) h9)
        refine lv_iinc (v := nI (4 * (j + 1))) (lv' := [(3, .int (nI (4 * (j + 1)))), (2, .ref aM), (1, .ref aX), (0, .ref b)]) hx hb d_L_law_506 hl (k := 0) rfl (nI_p4 j) (by decide) rfl (fun ls hl => ?_)
        refine lv_goto (tgt := 18) hx hb d_L_law_509 (by decide) ?_
        refine W.widen (k := 13 + (j + 1)) (n := 2399 + 6 * (j + 1)) (by omega) (by omega) ?_
        exact ih (j + 1) ((haulA (d, n, kk, ht, tk, so, lt, sto, ni, ac, bl, t) (xs (4 * j + 1))).2) ad _ _ ls (by omega) (by omega) (inv_haul hI (xs (4 * j + 1))) hPx hDx hPm hDm hS (lv_sub hl [0, 1, 2, 3] rfl)
      · refine lv_tableIn (off := 229) (tgt := 261) hx hb d_L_law_32 (by decide) (by decide) (by decide) (by decide) ?_
        refine lv_aload_n hx hb d_L_law_261 rfl (lv_at hl 2 rfl) ?_
        refine lv_aload_n hx hb d_L_law_262 rfl (lv_at hl 3 rfl) ?_
        refine lv_iload_n hx hb d_L_law_263 rfl (lv_at hl 0 rfl) ?_
        refine lv_iconst (v := 1) hx hb d_L_law_264 (by decide) ?_
        refine lv_iadd hx hb d_L_law_265 ?_
        rw [nI_1 (4 * j)]
        refine va_sld hx hb hX hbl hbA hS (vp_in_nI (show 4 * j + 1 < L by omega) (by omega)) d_L_law_266 ?_
        rw [nI_clamp (show 4 * j + 1 < 2 ^ 31 by omega)]
        refine lv_aload_n hx hb d_L_law_267 rfl (lv_at hl 3 rfl) ?_
        refine lv_iload_n hx hb d_L_law_268 rfl (lv_at hl 0 rfl) ?_
        refine lv_iconst (v := 2) hx hb d_L_law_269 (by decide) ?_
        refine lv_iadd hx hb d_L_law_270 ?_
        rw [nI_p2 (4 * j)]
        refine va_sld hx hb hX hbl hbA hS (vp_in_nI (show 4 * j + 2 < L by omega) (by omega)) d_L_law_271 ?_
        rw [nI_clamp (show 4 * j + 2 < 2 ^ 31 by omega)]
        refine zcL (As := [.int (xs (4 * j + 1)), .int (xs (4 * j + 2))]) (rest := []) (ci := 10) E cy_X_fill kw_530 kw_531 kw_529 (c_X_fill l dC dI c1 c2 c3 (zAX s.heap.size aM m1 m2 m3 m4 m5 m6 m7) aX aC aD aE aA ad d n kk ht tk so lt sto ni ac bl t hI (xs (4 * j + 1)) (xs (4 * j + 2))) hKx hPx hDx hS (fun _ h => h.1) 3 rfl zC_X.1 rfl rfl hl.1 rfl (Nat.le_of_ble_eq_true rfl) ⟨Nat.le_of_ble_eq_true rfl, Nat.le_of_ble_eq_true rfl⟩ d_L_law_272 ⟨show 13 + j ≤ 600000 by omega, show 2399 + 6 * j ≤ 7302250 by omega⟩ (fun H1 locs hPx hDx hk9 hS => ?_)
        have hPm := keepM hPm hDm hk9
        clear hk9
        refine lv_aload_n hx hb d_L_law_275 rfl (lv_at hl 1 rfl) ?_
        refine lv_aload_n hx hb d_L_law_276 rfl (lv_at hl 3 rfl) ?_
        refine lv_iload_n hx hb d_L_law_277 rfl (lv_at hl 0 rfl) ?_
        refine lv_iconst (v := 1) hx hb d_L_law_278 (by decide) ?_
        refine lv_iadd hx hb d_L_law_279 ?_
        rw [nI_1 (4 * j)]
        refine va_sld hx hb hX hbl hbA hS (vp_in_nI (show 4 * j + 1 < L by omega) (by omega)) d_L_law_280 ?_
        rw [nI_clamp (show 4 * j + 1 < 2 ^ 31 by omega)]
        refine lv_aload_n hx hb d_L_law_281 rfl (lv_at hl 3 rfl) ?_
        refine lv_iload_n hx hb d_L_law_282 rfl (lv_at hl 0 rfl) ?_
        refine lv_iconst (v := 2) hx hb d_L_law_283 (by decide) ?_
        refine lv_iadd hx hb d_L_law_284 ?_
        rw [nI_p2 (4 * j)]
        refine va_sld hx hb hX hbl hbA hS (vp_in_nI (show 4 * j + 2 < L by omega) (by omega)) d_L_law_285 ?_
        rw [nI_clamp (show 4 * j + 2 < 2 ^ 31 by omega)]
        refine zcL (As := [.int (xs (4 * j + 1)), .int (xs (4 * j + 2))]) (rest := [.int ((fillA (d, n, kk, ht, tk, so, lt, sto, ni, ac, bl, t) (xs (4 * j + 1)) (xs (4 * j + 2))).1)]) (ci := 11) E cy_M_fill kw_822 kw_823 kw_821 (c_M_fill l dC dI g1 g2 g3 g4 g5 g6 g7 (zAM aM m1 m2 m3 m4 m5 m6 m7) aM m1 m2 m3 m4 m5 m6 m7 d n kk ht tk so lt sto ni ac bl t hI (xs (4 * j + 1)) (xs (4 * j + 2))) hKm hPm hDm hS hAM 0 rfl zC_M.1 rfl rfl hl.1 rfl (Nat.le_of_ble_eq_true rfl) ⟨Nat.le_of_ble_eq_true rfl, Nat.le_of_ble_eq_true rfl⟩ d_L_law_286 ⟨show 13 + j ≤ 600000 by omega, show 2399 + 6 * j ≤ 7302250 by omega⟩ (fun H2 locs hPm hDm hk9 hS => ?_)
        have hPx := keepX hPx hDx hk9
        refine lv_icmp_eq (tgt := 506) hx hb d_L_law_289 (by decide) (fun _ => ?_) (fun h9 => absurd (rfl) h9)
        refine lv_iinc (v := nI (4 * (j + 1))) (lv' := [(3, .int (nI (4 * (j + 1)))), (2, .ref aM), (1, .ref aX), (0, .ref b)]) hx hb d_L_law_506 hl (k := 0) rfl (nI_p4 j) (by decide) rfl (fun ls hl => ?_)
        refine lv_goto (tgt := 18) hx hb d_L_law_509 (by decide) ?_
        refine W.widen (k := 13 + (j + 1)) (n := 2399 + 6 * (j + 1)) (by omega) (by omega) ?_
        exact ih (j + 1) ((fillA (d, n, kk, ht, tk, so, lt, sto, ni, ac, bl, t) (xs (4 * j + 1)) (xs (4 * j + 2))).2) ad _ _ ls (by omega) (by omega) (inv_fill hI (xs (4 * j + 1)) (xs (4 * j + 2))) hPx hDx hPm hDm hS (lv_sub hl [0, 1, 2, 3] rfl)
      · by_cases h6 : xs (4 * j + 2) = 0
        · refine lv_tableIn (off := 262) (tgt := 294) hx hb d_L_law_32 (by decide) (by decide) (by decide) (by decide) ?_
          refine lv_aload_n hx hb d_L_law_294 rfl (lv_at hl 2 rfl) ?_
          refine lv_aload_n hx hb d_L_law_295 rfl (lv_at hl 3 rfl) ?_
          refine lv_iload_n hx hb d_L_law_296 rfl (lv_at hl 0 rfl) ?_
          refine lv_iconst (v := 1) hx hb d_L_law_297 (by decide) ?_
          refine lv_iadd hx hb d_L_law_298 ?_
          rw [nI_1 (4 * j)]
          refine va_sld hx hb hX hbl hbA hS (vp_in_nI (show 4 * j + 1 < L by omega) (by omega)) d_L_law_299 ?_
          rw [nI_clamp (show 4 * j + 1 < 2 ^ 31 by omega)]
          refine lv_aload_n hx hb d_L_law_300 rfl (lv_at hl 3 rfl) ?_
          refine lv_iload_n hx hb d_L_law_301 rfl (lv_at hl 0 rfl) ?_
          refine lv_iconst (v := 2) hx hb d_L_law_302 (by decide) ?_
          refine lv_iadd hx hb d_L_law_303 ?_
          rw [nI_p2 (4 * j)]
          refine va_sld hx hb hX hbl hbA hS (vp_in_nI (show 4 * j + 2 < L by omega) (by omega)) d_L_law_304 ?_
          rw [nI_clamp (show 4 * j + 2 < 2 ^ 31 by omega)]
          refine lv_if_eq (tgt := 312) hx hb d_L_law_305 (by decide) (fun _ => ?_) (fun h9 => absurd (h6) h9)
          refine lv_iconst (v := 0) hx hb d_L_law_312 (by decide) ?_
          refine zcL (As := [.int (xs (4 * j + 1)), .int 0]) (rest := []) (ci := 10) E cy_X_light kw_535 kw_536 kw_534 (c_X_light l dC dI c1 c2 c3 (zAX s.heap.size aM m1 m2 m3 m4 m5 m6 m7) aX aC aD aE aA ad d n kk ht tk so lt sto ni ac bl t hI (xs (4 * j + 1)) 0 (Or.inl rfl)) hKx hPx hDx hS (fun _ h => h.1) 3 rfl zC_X.1 rfl rfl hl.1 rfl (Nat.le_of_ble_eq_true rfl) ⟨Nat.le_of_ble_eq_true rfl, Nat.le_of_ble_eq_true rfl⟩ d_L_law_313 ⟨show 13 + j ≤ 600000 by omega, show 2399 + 6 * j ≤ 7302250 by omega⟩ (fun H1 locs hPx hDx hk9 hS => ?_)
          have hPm := keepM hPm hDm hk9
          clear hk9
          refine lv_aload_n hx hb d_L_law_316 rfl (lv_at hl 1 rfl) ?_
          refine lv_aload_n hx hb d_L_law_317 rfl (lv_at hl 3 rfl) ?_
          refine lv_iload_n hx hb d_L_law_318 rfl (lv_at hl 0 rfl) ?_
          refine lv_iconst (v := 1) hx hb d_L_law_319 (by decide) ?_
          refine lv_iadd hx hb d_L_law_320 ?_
          rw [nI_1 (4 * j)]
          refine va_sld hx hb hX hbl hbA hS (vp_in_nI (show 4 * j + 1 < L by omega) (by omega)) d_L_law_321 ?_
          rw [nI_clamp (show 4 * j + 1 < 2 ^ 31 by omega)]
          refine lv_aload_n hx hb d_L_law_322 rfl (lv_at hl 3 rfl) ?_
          refine lv_iload_n hx hb d_L_law_323 rfl (lv_at hl 0 rfl) ?_
          refine lv_iconst (v := 2) hx hb d_L_law_324 (by decide) ?_
          refine lv_iadd hx hb d_L_law_325 ?_
          rw [nI_p2 (4 * j)]
          refine va_sld hx hb hX hbl hbA hS (vp_in_nI (show 4 * j + 2 < L by omega) (by omega)) d_L_law_326 ?_
          rw [nI_clamp (show 4 * j + 2 < 2 ^ 31 by omega)]
          refine lv_if_eq (tgt := 334) hx hb d_L_law_327 (by decide) (fun _ => ?_) (fun h9 => absurd (h6) h9)
          refine lv_iconst (v := 0) hx hb d_L_law_334 (by decide) ?_
          refine zcL (As := [.int (xs (4 * j + 1)), .int 0]) (rest := [.int ((lightA (d, n, kk, ht, tk, so, lt, sto, ni, ac, bl, t) (xs (4 * j + 1)) 0).1)]) (ci := 11) E cy_M_light kw_827 kw_828 kw_826 (c_M_light l dC dI g1 g2 g3 g4 g5 g6 g7 (zAM aM m1 m2 m3 m4 m5 m6 m7) aM m1 m2 m3 m4 m5 m6 m7 d n kk ht tk so lt sto ni ac bl t hI (xs (4 * j + 1)) 0 (Or.inl rfl)) hKm hPm hDm hS hAM 0 rfl zC_M.1 rfl rfl hl.1 rfl (Nat.le_of_ble_eq_true rfl) ⟨Nat.le_of_ble_eq_true rfl, Nat.le_of_ble_eq_true rfl⟩ d_L_law_335 ⟨show 13 + j ≤ 600000 by omega, show 2399 + 6 * j ≤ 7302250 by omega⟩ (fun H2 locs hPm hDm hk9 hS => ?_)
          have hPx := keepX hPx hDx hk9
          refine lv_icmp_eq (tgt := 506) hx hb d_L_law_338 (by decide) (fun _ => ?_) (fun h9 => absurd (rfl) h9)
          refine lv_iinc (v := nI (4 * (j + 1))) (lv' := [(3, .int (nI (4 * (j + 1)))), (2, .ref aM), (1, .ref aX), (0, .ref b)]) hx hb d_L_law_506 hl (k := 0) rfl (nI_p4 j) (by decide) rfl (fun ls hl => ?_)
          refine lv_goto (tgt := 18) hx hb d_L_law_509 (by decide) ?_
          refine W.widen (k := 13 + (j + 1)) (n := 2399 + 6 * (j + 1)) (by omega) (by omega) ?_
          exact ih (j + 1) ((lightA (d, n, kk, ht, tk, so, lt, sto, ni, ac, bl, t) (xs (4 * j + 1)) 0).2) ad _ _ ls (by omega) (by omega) (inv_light hI (xs (4 * j + 1)) 0) hPx hDx hPm hDm hS (lv_sub hl [0, 1, 2, 3] rfl)
        · refine lv_tableIn (off := 262) (tgt := 294) hx hb d_L_law_32 (by decide) (by decide) (by decide) (by decide) ?_
          refine lv_aload_n hx hb d_L_law_294 rfl (lv_at hl 2 rfl) ?_
          refine lv_aload_n hx hb d_L_law_295 rfl (lv_at hl 3 rfl) ?_
          refine lv_iload_n hx hb d_L_law_296 rfl (lv_at hl 0 rfl) ?_
          refine lv_iconst (v := 1) hx hb d_L_law_297 (by decide) ?_
          refine lv_iadd hx hb d_L_law_298 ?_
          rw [nI_1 (4 * j)]
          refine va_sld hx hb hX hbl hbA hS (vp_in_nI (show 4 * j + 1 < L by omega) (by omega)) d_L_law_299 ?_
          rw [nI_clamp (show 4 * j + 1 < 2 ^ 31 by omega)]
          refine lv_aload_n hx hb d_L_law_300 rfl (lv_at hl 3 rfl) ?_
          refine lv_iload_n hx hb d_L_law_301 rfl (lv_at hl 0 rfl) ?_
          refine lv_iconst (v := 2) hx hb d_L_law_302 (by decide) ?_
          refine lv_iadd hx hb d_L_law_303 ?_
          rw [nI_p2 (4 * j)]
          refine va_sld hx hb hX hbl hbA hS (vp_in_nI (show 4 * j + 2 < L by omega) (by omega)) d_L_law_304 ?_
          rw [nI_clamp (show 4 * j + 2 < 2 ^ 31 by omega)]
          refine lv_if_eq (tgt := 312) hx hb d_L_law_305 (by decide) (fun h9 => absurd h9 (h6)) (fun _ => ?_)
          refine lv_iconst (v := 1) hx hb d_L_law_308 (by decide) ?_
          refine lv_goto (tgt := 313) hx hb d_L_law_309 (by decide) ?_
          refine zcL (As := [.int (xs (4 * j + 1)), .int 1]) (rest := []) (ci := 10) E cy_X_light kw_535 kw_536 kw_534 (c_X_light l dC dI c1 c2 c3 (zAX s.heap.size aM m1 m2 m3 m4 m5 m6 m7) aX aC aD aE aA ad d n kk ht tk so lt sto ni ac bl t hI (xs (4 * j + 1)) 1 (Or.inr rfl)) hKx hPx hDx hS (fun _ h => h.1) 3 rfl zC_X.1 rfl rfl hl.1 rfl (Nat.le_of_ble_eq_true rfl) ⟨Nat.le_of_ble_eq_true rfl, Nat.le_of_ble_eq_true rfl⟩ d_L_law_313 ⟨show 13 + j ≤ 600000 by omega, show 2399 + 6 * j ≤ 7302250 by omega⟩ (fun H1 locs hPx hDx hk9 hS => ?_)
          have hPm := keepM hPm hDm hk9
          clear hk9
          refine lv_aload_n hx hb d_L_law_316 rfl (lv_at hl 1 rfl) ?_
          refine lv_aload_n hx hb d_L_law_317 rfl (lv_at hl 3 rfl) ?_
          refine lv_iload_n hx hb d_L_law_318 rfl (lv_at hl 0 rfl) ?_
          refine lv_iconst (v := 1) hx hb d_L_law_319 (by decide) ?_
          refine lv_iadd hx hb d_L_law_320 ?_
          rw [nI_1 (4 * j)]
          refine va_sld hx hb hX hbl hbA hS (vp_in_nI (show 4 * j + 1 < L by omega) (by omega)) d_L_law_321 ?_
          rw [nI_clamp (show 4 * j + 1 < 2 ^ 31 by omega)]
          refine lv_aload_n hx hb d_L_law_322 rfl (lv_at hl 3 rfl) ?_
          refine lv_iload_n hx hb d_L_law_323 rfl (lv_at hl 0 rfl) ?_
          refine lv_iconst (v := 2) hx hb d_L_law_324 (by decide) ?_
          refine lv_iadd hx hb d_L_law_325 ?_
          rw [nI_p2 (4 * j)]
          refine va_sld hx hb hX hbl hbA hS (vp_in_nI (show 4 * j + 2 < L by omega) (by omega)) d_L_law_326 ?_
          rw [nI_clamp (show 4 * j + 2 < 2 ^ 31 by omega)]
          refine lv_if_eq (tgt := 334) hx hb d_L_law_327 (by decide) (fun h9 => absurd h9 (h6)) (fun _ => ?_)
          refine lv_iconst (v := 1) hx hb d_L_law_330 (by decide) ?_
          refine lv_goto (tgt := 335) hx hb d_L_law_331 (by decide) ?_
          refine zcL (As := [.int (xs (4 * j + 1)), .int 1]) (rest := [.int ((lightA (d, n, kk, ht, tk, so, lt, sto, ni, ac, bl, t) (xs (4 * j + 1)) 1).1)]) (ci := 11) E cy_M_light kw_827 kw_828 kw_826 (c_M_light l dC dI g1 g2 g3 g4 g5 g6 g7 (zAM aM m1 m2 m3 m4 m5 m6 m7) aM m1 m2 m3 m4 m5 m6 m7 d n kk ht tk so lt sto ni ac bl t hI (xs (4 * j + 1)) 1 (Or.inr rfl)) hKm hPm hDm hS hAM 0 rfl zC_M.1 rfl rfl hl.1 rfl (Nat.le_of_ble_eq_true rfl) ⟨Nat.le_of_ble_eq_true rfl, Nat.le_of_ble_eq_true rfl⟩ d_L_law_335 ⟨show 13 + j ≤ 600000 by omega, show 2399 + 6 * j ≤ 7302250 by omega⟩ (fun H2 locs hPm hDm hk9 hS => ?_)
          have hPx := keepX hPx hDx hk9
          refine lv_icmp_eq (tgt := 506) hx hb d_L_law_338 (by decide) (fun _ => ?_) (fun h9 => absurd (rfl) h9)
          refine lv_iinc (v := nI (4 * (j + 1))) (lv' := [(3, .int (nI (4 * (j + 1)))), (2, .ref aM), (1, .ref aX), (0, .ref b)]) hx hb d_L_law_506 hl (k := 0) rfl (nI_p4 j) (by decide) rfl (fun ls hl => ?_)
          refine lv_goto (tgt := 18) hx hb d_L_law_509 (by decide) ?_
          refine W.widen (k := 13 + (j + 1)) (n := 2399 + 6 * (j + 1)) (by omega) (by omega) ?_
          exact ih (j + 1) ((lightA (d, n, kk, ht, tk, so, lt, sto, ni, ac, bl, t) (xs (4 * j + 1)) 1).2) ad _ _ ls (by omega) (by omega) (inv_light hI (xs (4 * j + 1)) 1) hPx hDx hPm hDm hS (lv_sub hl [0, 1, 2, 3] rfl)
      · refine lv_tableIn (off := 311) (tgt := 343) hx hb d_L_law_32 (by decide) (by decide) (by decide) (by decide) ?_
        refine lv_aload_n hx hb d_L_law_343 rfl (lv_at hl 2 rfl) ?_
        refine lv_aload_n hx hb d_L_law_344 rfl (lv_at hl 3 rfl) ?_
        refine lv_iload_n hx hb d_L_law_345 rfl (lv_at hl 0 rfl) ?_
        refine lv_iconst (v := 1) hx hb d_L_law_346 (by decide) ?_
        refine lv_iadd hx hb d_L_law_347 ?_
        rw [nI_1 (4 * j)]
        refine va_sld hx hb hX hbl hbA hS (vp_in_nI (show 4 * j + 1 < L by omega) (by omega)) d_L_law_348 ?_
        rw [nI_clamp (show 4 * j + 1 < 2 ^ 31 by omega)]
        refine zcL (As := [.int (xs (4 * j + 1))]) (rest := []) (ci := 10) E cy_X_night kw_539 kw_540 kw_538 (c_X_night l dC dI c1 c2 c3 (zAX s.heap.size aM m1 m2 m3 m4 m5 m6 m7) aX aC aD aE aA ad d n kk ht tk so lt sto ni ac bl t hI (xs (4 * j + 1))) hKx hPx hDx hS (fun _ h => h.1) 3 rfl zC_X.1 rfl rfl hl.1 rfl (Nat.le_of_ble_eq_true rfl) ⟨Nat.le_of_ble_eq_true rfl, Nat.le_of_ble_eq_true rfl⟩ d_L_law_349 ⟨show 13 + j ≤ 600000 by omega, show 2399 + 6 * j ≤ 7302250 by omega⟩ (fun H1 locs hPx hDx hk9 hS => ?_)
        have hPm := keepM hPm hDm hk9
        clear hk9
        refine lv_aload_n hx hb d_L_law_352 rfl (lv_at hl 1 rfl) ?_
        refine lv_aload_n hx hb d_L_law_353 rfl (lv_at hl 3 rfl) ?_
        refine lv_iload_n hx hb d_L_law_354 rfl (lv_at hl 0 rfl) ?_
        refine lv_iconst (v := 1) hx hb d_L_law_355 (by decide) ?_
        refine lv_iadd hx hb d_L_law_356 ?_
        rw [nI_1 (4 * j)]
        refine va_sld hx hb hX hbl hbA hS (vp_in_nI (show 4 * j + 1 < L by omega) (by omega)) d_L_law_357 ?_
        rw [nI_clamp (show 4 * j + 1 < 2 ^ 31 by omega)]
        refine zcL (As := [.int (xs (4 * j + 1))]) (rest := [.int ((nightA (d, n, kk, ht, tk, so, lt, sto, ni, ac, bl, t) (xs (4 * j + 1))).1)]) (ci := 11) E cy_M_night kw_831 kw_832 kw_830 (c_M_night l dC dI g1 g2 g3 g4 g5 g6 g7 (zAM aM m1 m2 m3 m4 m5 m6 m7) aM m1 m2 m3 m4 m5 m6 m7 d n kk ht tk so lt sto ni ac bl t hI (xs (4 * j + 1))) hKm hPm hDm hS hAM 0 rfl zC_M.1 rfl rfl hl.1 rfl (Nat.le_of_ble_eq_true rfl) ⟨Nat.le_of_ble_eq_true rfl, Nat.le_of_ble_eq_true rfl⟩ d_L_law_358 ⟨show 13 + j ≤ 600000 by omega, show 2399 + 6 * j ≤ 7302250 by omega⟩ (fun H2 locs hPm hDm hk9 hS => ?_)
        have hPx := keepX hPx hDx hk9
        refine lv_icmp_eq (tgt := 506) hx hb d_L_law_361 (by decide) (fun _ => ?_) (fun h9 => absurd (rfl) h9)
        refine lv_iinc (v := nI (4 * (j + 1))) (lv' := [(3, .int (nI (4 * (j + 1)))), (2, .ref aM), (1, .ref aX), (0, .ref b)]) hx hb d_L_law_506 hl (k := 0) rfl (nI_p4 j) (by decide) rfl (fun ls hl => ?_)
        refine lv_goto (tgt := 18) hx hb d_L_law_509 (by decide) ?_
        refine W.widen (k := 13 + (j + 1)) (n := 2399 + 6 * (j + 1)) (by omega) (by omega) ?_
        exact ih (j + 1) ((nightA (d, n, kk, ht, tk, so, lt, sto, ni, ac, bl, t) (xs (4 * j + 1))).2) ad _ _ ls (by omega) (by omega) (inv_night hI (xs (4 * j + 1))) hPx hDx hPm hDm hS (lv_sub hl [0, 1, 2, 3] rfl)
      · refine lv_tableIn (off := 334) (tgt := 366) hx hb d_L_law_32 (by decide) (by decide) (by decide) (by decide) ?_
        refine lv_aload_n hx hb d_L_law_366 rfl (lv_at hl 2 rfl) ?_
        refine lv_aload_n hx hb d_L_law_367 rfl (lv_at hl 3 rfl) ?_
        refine lv_iload_n hx hb d_L_law_368 rfl (lv_at hl 0 rfl) ?_
        refine lv_iconst (v := 1) hx hb d_L_law_369 (by decide) ?_
        refine lv_iadd hx hb d_L_law_370 ?_
        rw [nI_1 (4 * j)]
        refine va_sld hx hb hX hbl hbA hS (vp_in_nI (show 4 * j + 1 < L by omega) (by omega)) d_L_law_371 ?_
        rw [nI_clamp (show 4 * j + 1 < 2 ^ 31 by omega)]
        refine zcL (As := [.int (xs (4 * j + 1))]) (rest := []) (ci := 10) E cy_X_seen kw_561 kw_562 kw_560 (c_X_seen l dC dI c1 c2 c3 (zAX s.heap.size aM m1 m2 m3 m4 m5 m6 m7) aX aC aD aE aA ad d n kk ht tk so lt sto ni ac bl t hI (xs (4 * j + 1))) hKx hPx hDx hS (fun _ h => h.1) 3 rfl zC_X.1 rfl rfl hl.1 rfl (Nat.le_of_ble_eq_true rfl) ⟨Nat.le_of_ble_eq_true rfl, Nat.le_of_ble_eq_true rfl⟩ d_L_law_372 ⟨show 13 + j ≤ 600000 by omega, show 2399 + 6 * j ≤ 7302250 by omega⟩ (fun H1 locs hPx hDx hk9 hS => ?_)
        have hPm := keepM hPm hDm hk9
        clear hk9
        refine lv_aload_n hx hb d_L_law_375 rfl (lv_at hl 1 rfl) ?_
        refine lv_aload_n hx hb d_L_law_376 rfl (lv_at hl 3 rfl) ?_
        refine lv_iload_n hx hb d_L_law_377 rfl (lv_at hl 0 rfl) ?_
        refine lv_iconst (v := 1) hx hb d_L_law_378 (by decide) ?_
        refine lv_iadd hx hb d_L_law_379 ?_
        rw [nI_1 (4 * j)]
        refine va_sld hx hb hX hbl hbA hS (vp_in_nI (show 4 * j + 1 < L by omega) (by omega)) d_L_law_380 ?_
        rw [nI_clamp (show 4 * j + 1 < 2 ^ 31 by omega)]
        refine zcL (As := [.int (xs (4 * j + 1))]) (rest := [.int ((seenA (d, n, kk, ht, tk, so, lt, sto, ni, ac, bl, t) (xs (4 * j + 1))).1)]) (ci := 11) E cy_M_seen kw_839 kw_840 kw_838 (c_M_seen l dC dI g1 g2 g3 g4 g5 g6 g7 (zAM aM m1 m2 m3 m4 m5 m6 m7) aM m1 m2 m3 m4 m5 m6 m7 d n kk ht tk so lt sto ni ac bl t hI (xs (4 * j + 1))) hKm hPm hDm hS hAM 0 rfl zC_M.1 rfl rfl hl.1 rfl (Nat.le_of_ble_eq_true rfl) ⟨Nat.le_of_ble_eq_true rfl, Nat.le_of_ble_eq_true rfl⟩ d_L_law_381 ⟨show 13 + j ≤ 600000 by omega, show 2399 + 6 * j ≤ 7302250 by omega⟩ (fun H2 locs hPm hDm hk9 hS => ?_)
        have hPx := keepX hPx hDx hk9
        refine lv_icmp_eq (tgt := 506) hx hb d_L_law_384 (by decide) (fun _ => ?_) (fun h9 => absurd (rfl) h9)
        refine lv_iinc (v := nI (4 * (j + 1))) (lv' := [(3, .int (nI (4 * (j + 1)))), (2, .ref aM), (1, .ref aX), (0, .ref b)]) hx hb d_L_law_506 hl (k := 0) rfl (nI_p4 j) (by decide) rfl (fun ls hl => ?_)
        refine lv_goto (tgt := 18) hx hb d_L_law_509 (by decide) ?_
        refine W.widen (k := 13 + (j + 1)) (n := 2399 + 6 * (j + 1)) (by omega) (by omega) ?_
        exact ih (j + 1) ((seenA (d, n, kk, ht, tk, so, lt, sto, ni, ac, bl, t) (xs (4 * j + 1))).2) ad _ _ ls (by omega) (by omega) (inv_seen hI (xs (4 * j + 1))) hPx hDx hPm hDm hS (lv_sub hl [0, 1, 2, 3] rfl)
      · refine lv_tableIn (off := 357) (tgt := 389) hx hb d_L_law_32 (by decide) (by decide) (by decide) (by decide) ?_
        refine lv_aload_n hx hb d_L_law_389 rfl (lv_at hl 2 rfl) ?_
        refine lv_aload_n hx hb d_L_law_390 rfl (lv_at hl 3 rfl) ?_
        refine lv_iload_n hx hb d_L_law_391 rfl (lv_at hl 0 rfl) ?_
        refine lv_iconst (v := 1) hx hb d_L_law_392 (by decide) ?_
        refine lv_iadd hx hb d_L_law_393 ?_
        rw [nI_1 (4 * j)]
        refine va_sld hx hb hX hbl hbA hS (vp_in_nI (show 4 * j + 1 < L by omega) (by omega)) d_L_law_394 ?_
        rw [nI_clamp (show 4 * j + 1 < 2 ^ 31 by omega)]
        refine lv_aload_n hx hb d_L_law_395 rfl (lv_at hl 3 rfl) ?_
        refine lv_iload_n hx hb d_L_law_396 rfl (lv_at hl 0 rfl) ?_
        refine lv_iconst (v := 2) hx hb d_L_law_397 (by decide) ?_
        refine lv_iadd hx hb d_L_law_398 ?_
        rw [nI_p2 (4 * j)]
        refine va_sld hx hb hX hbl hbA hS (vp_in_nI (show 4 * j + 2 < L by omega) (by omega)) d_L_law_399 ?_
        rw [nI_clamp (show 4 * j + 2 < 2 ^ 31 by omega)]
        refine zcL (As := [.int (xs (4 * j + 1)), .int (xs (4 * j + 2))]) (rest := []) (ci := 10) E cy_X_blow kw_565 kw_566 kw_564 (c_X_blow l dC dI c1 c2 c3 (zAX s.heap.size aM m1 m2 m3 m4 m5 m6 m7) aX aC aD aE aA ad d n kk ht tk so lt sto ni ac bl t hI (xs (4 * j + 1)) (xs (4 * j + 2))) hKx hPx hDx hS (fun _ h => h.1) 3 rfl zC_X.1 rfl rfl hl.1 rfl (Nat.le_of_ble_eq_true rfl) ⟨Nat.le_of_ble_eq_true rfl, Nat.le_of_ble_eq_true rfl⟩ d_L_law_400 ⟨show 13 + j ≤ 600000 by omega, show 2399 + 6 * j ≤ 7302250 by omega⟩ (fun H1 locs hPx hDx hk9 hS => ?_)
        have hPm := keepM hPm hDm hk9
        clear hk9
        refine lv_aload_n hx hb d_L_law_403 rfl (lv_at hl 1 rfl) ?_
        refine lv_aload_n hx hb d_L_law_404 rfl (lv_at hl 3 rfl) ?_
        refine lv_iload_n hx hb d_L_law_405 rfl (lv_at hl 0 rfl) ?_
        refine lv_iconst (v := 1) hx hb d_L_law_406 (by decide) ?_
        refine lv_iadd hx hb d_L_law_407 ?_
        rw [nI_1 (4 * j)]
        refine va_sld hx hb hX hbl hbA hS (vp_in_nI (show 4 * j + 1 < L by omega) (by omega)) d_L_law_408 ?_
        rw [nI_clamp (show 4 * j + 1 < 2 ^ 31 by omega)]
        refine lv_aload_n hx hb d_L_law_409 rfl (lv_at hl 3 rfl) ?_
        refine lv_iload_n hx hb d_L_law_410 rfl (lv_at hl 0 rfl) ?_
        refine lv_iconst (v := 2) hx hb d_L_law_411 (by decide) ?_
        refine lv_iadd hx hb d_L_law_412 ?_
        rw [nI_p2 (4 * j)]
        refine va_sld hx hb hX hbl hbA hS (vp_in_nI (show 4 * j + 2 < L by omega) (by omega)) d_L_law_413 ?_
        rw [nI_clamp (show 4 * j + 2 < 2 ^ 31 by omega)]
        refine zcL (As := [.int (xs (4 * j + 1)), .int (xs (4 * j + 2))]) (rest := [.int ((blowA (d, n, kk, ht, tk, so, lt, sto, ni, ac, bl, t) (xs (4 * j + 1)) (xs (4 * j + 2))).1)]) (ci := 11) E cy_M_blow kw_843 kw_844 kw_842 (c_M_blow l dC dI g1 g2 g3 g4 g5 g6 g7 (zAM aM m1 m2 m3 m4 m5 m6 m7) aM m1 m2 m3 m4 m5 m6 m7 d n kk ht tk so lt sto ni ac bl t hI (xs (4 * j + 1)) (xs (4 * j + 2))) hKm hPm hDm hS hAM 0 rfl zC_M.1 rfl rfl hl.1 rfl (Nat.le_of_ble_eq_true rfl) ⟨Nat.le_of_ble_eq_true rfl, Nat.le_of_ble_eq_true rfl⟩ d_L_law_414 ⟨show 13 + j ≤ 600000 by omega, show 2399 + 6 * j ≤ 7302250 by omega⟩ (fun H2 locs hPm hDm hk9 hS => ?_)
        have hPx := keepX hPx hDx hk9
        refine lv_icmp_eq (tgt := 506) hx hb d_L_law_417 (by decide) (fun _ => ?_) (fun h9 => absurd (rfl) h9)
        refine lv_iinc (v := nI (4 * (j + 1))) (lv' := [(3, .int (nI (4 * (j + 1)))), (2, .ref aM), (1, .ref aX), (0, .ref b)]) hx hb d_L_law_506 hl (k := 0) rfl (nI_p4 j) (by decide) rfl (fun ls hl => ?_)
        refine lv_goto (tgt := 18) hx hb d_L_law_509 (by decide) ?_
        refine W.widen (k := 13 + (j + 1)) (n := 2399 + 6 * (j + 1)) (by omega) (by omega) ?_
        exact ih (j + 1) ((blowA (d, n, kk, ht, tk, so, lt, sto, ni, ac, bl, t) (xs (4 * j + 1)) (xs (4 * j + 2))).2) ad _ _ ls (by omega) (by omega) (inv_blow hI (xs (4 * j + 1)) (xs (4 * j + 2))) hPx hDx hPm hDm hS (lv_sub hl [0, 1, 2, 3] rfl)
      · refine lv_tableIn (off := 390) (tgt := 422) hx hb d_L_law_32 (by decide) (by decide) (by decide) (by decide) ?_
        refine lv_aload_n hx hb d_L_law_422 rfl (lv_at hl 2 rfl) ?_
        refine zcL (As := []) (rest := []) (ci := 10) E cy_X_blown kw_569 kw_570 kw_568 (c_X_blown l dC dI c1 c2 c3 (zAX s.heap.size aM m1 m2 m3 m4 m5 m6 m7) aX aC aD aE aA ad d n kk ht tk so lt sto ni ac bl t hI) hKx hPx hDx hS (fun _ h => h.1) 3 rfl zC_X.1 rfl rfl hl.1 rfl (Nat.le_of_ble_eq_true rfl) ⟨Nat.le_of_ble_eq_true rfl, Nat.le_of_ble_eq_true rfl⟩ d_L_law_423 ⟨show 13 + j ≤ 600000 by omega, show 2399 + 6 * j ≤ 7302250 by omega⟩ (fun H1 locs hPx hDx hk9 hS => ?_)
        have hPm := keepM hPm hDm hk9
        clear hk9
        refine lv_aload_n hx hb d_L_law_426 rfl (lv_at hl 1 rfl) ?_
        refine zcL (As := []) (rest := [.int (blownA (d, n, kk, ht, tk, so, lt, sto, ni, ac, bl, t))]) (ci := 11) E cy_M_blown kw_847 kw_848 kw_846 (c_M_blown l dC dI g1 g2 g3 g4 g5 g6 g7 (zAM aM m1 m2 m3 m4 m5 m6 m7) aM m1 m2 m3 m4 m5 m6 m7 d n kk ht tk so lt sto ni ac bl t hI) hKm hPm hDm hS hAM 0 rfl zC_M.1 rfl rfl hl.1 rfl (Nat.le_of_ble_eq_true rfl) ⟨Nat.le_of_ble_eq_true rfl, Nat.le_of_ble_eq_true rfl⟩ d_L_law_427 ⟨show 13 + j ≤ 600000 by omega, show 2399 + 6 * j ≤ 7302250 by omega⟩ (fun H2 locs hPm hDm hk9 hS => ?_)
        have hPx := keepX hPx hDx hk9
        refine lv_icmp_eq (tgt := 506) hx hb d_L_law_430 (by decide) (fun _ => ?_) (fun h9 => absurd (rfl) h9)
        refine lv_iinc (v := nI (4 * (j + 1))) (lv' := [(3, .int (nI (4 * (j + 1)))), (2, .ref aM), (1, .ref aX), (0, .ref b)]) hx hb d_L_law_506 hl (k := 0) rfl (nI_p4 j) (by decide) rfl (fun ls hl => ?_)
        refine lv_goto (tgt := 18) hx hb d_L_law_509 (by decide) ?_
        refine W.widen (k := 13 + (j + 1)) (n := 2399 + 6 * (j + 1)) (by omega) (by omega) ?_
        exact ih (j + 1) ((d, n, kk, ht, tk, so, lt, sto, ni, ac, bl, t)) ad _ _ ls (by omega) (by omega) hI hPx hDx hPm hDm hS (lv_sub hl [0, 1, 2, 3] rfl)
      · refine lv_tableIn (off := 403) (tgt := 435) hx hb d_L_law_32 (by decide) (by decide) (by decide) (by decide) ?_
        refine lv_aload_n hx hb d_L_law_435 rfl (lv_at hl 2 rfl) ?_
        refine lv_aload_n hx hb d_L_law_436 rfl (lv_at hl 3 rfl) ?_
        refine lv_iload_n hx hb d_L_law_437 rfl (lv_at hl 0 rfl) ?_
        refine lv_iconst (v := 1) hx hb d_L_law_438 (by decide) ?_
        refine lv_iadd hx hb d_L_law_439 ?_
        rw [nI_1 (4 * j)]
        refine va_sld hx hb hX hbl hbA hS (vp_in_nI (show 4 * j + 1 < L by omega) (by omega)) d_L_law_440 ?_
        rw [nI_clamp (show 4 * j + 1 < 2 ^ 31 by omega)]
        refine lv_aload_n hx hb d_L_law_441 rfl (lv_at hl 3 rfl) ?_
        refine lv_iload_n hx hb d_L_law_442 rfl (lv_at hl 0 rfl) ?_
        refine lv_iconst (v := 2) hx hb d_L_law_443 (by decide) ?_
        refine lv_iadd hx hb d_L_law_444 ?_
        rw [nI_p2 (4 * j)]
        refine va_sld hx hb hX hbl hbA hS (vp_in_nI (show 4 * j + 2 < L by omega) (by omega)) d_L_law_445 ?_
        rw [nI_clamp (show 4 * j + 2 < 2 ^ 31 by omega)]
        refine zcL (As := [.int (xs (4 * j + 1)), .int (xs (4 * j + 2))]) (rest := []) (ci := 10) E cy_X_told kw_573 kw_574 kw_572 (c_X_told l dC dI c1 c2 c3 (zAX s.heap.size aM m1 m2 m3 m4 m5 m6 m7) aX aC aD aE aA ad d n kk ht tk so lt sto ni ac bl t hI (xs (4 * j + 1)) (xs (4 * j + 2))) hKx hPx hDx hS (fun _ h => h.1) 3 rfl zC_X.1 rfl rfl hl.1 rfl (Nat.le_of_ble_eq_true rfl) ⟨Nat.le_of_ble_eq_true rfl, Nat.le_of_ble_eq_true rfl⟩ d_L_law_446 ⟨show 13 + j ≤ 600000 by omega, show 2399 + 6 * j ≤ 7302250 by omega⟩ (fun H1 locs hPx hDx hk9 hS => ?_)
        have hPm := keepM hPm hDm hk9
        clear hk9
        refine lv_aload_n hx hb d_L_law_449 rfl (lv_at hl 1 rfl) ?_
        refine lv_aload_n hx hb d_L_law_450 rfl (lv_at hl 3 rfl) ?_
        refine lv_iload_n hx hb d_L_law_451 rfl (lv_at hl 0 rfl) ?_
        refine lv_iconst (v := 1) hx hb d_L_law_452 (by decide) ?_
        refine lv_iadd hx hb d_L_law_453 ?_
        rw [nI_1 (4 * j)]
        refine va_sld hx hb hX hbl hbA hS (vp_in_nI (show 4 * j + 1 < L by omega) (by omega)) d_L_law_454 ?_
        rw [nI_clamp (show 4 * j + 1 < 2 ^ 31 by omega)]
        refine lv_aload_n hx hb d_L_law_455 rfl (lv_at hl 3 rfl) ?_
        refine lv_iload_n hx hb d_L_law_456 rfl (lv_at hl 0 rfl) ?_
        refine lv_iconst (v := 2) hx hb d_L_law_457 (by decide) ?_
        refine lv_iadd hx hb d_L_law_458 ?_
        rw [nI_p2 (4 * j)]
        refine va_sld hx hb hX hbl hbA hS (vp_in_nI (show 4 * j + 2 < L by omega) (by omega)) d_L_law_459 ?_
        rw [nI_clamp (show 4 * j + 2 < 2 ^ 31 by omega)]
        refine zcL (As := [.int (xs (4 * j + 1)), .int (xs (4 * j + 2))]) (rest := [.long (toldA (d, n, kk, ht, tk, so, lt, sto, ni, ac, bl, t) (xs (4 * j + 1)) (xs (4 * j + 2)))]) (ci := 11) E cy_M_told kw_851 kw_852 kw_850 (c_M_told l dC dI g1 g2 g3 g4 g5 g6 g7 (zAM aM m1 m2 m3 m4 m5 m6 m7) aM m1 m2 m3 m4 m5 m6 m7 d n kk ht tk so lt sto ni ac bl t hI (xs (4 * j + 1)) (xs (4 * j + 2))) hKm hPm hDm hS hAM 0 rfl zC_M.1 rfl rfl hl.1 rfl (Nat.le_of_ble_eq_true rfl) ⟨Nat.le_of_ble_eq_true rfl, Nat.le_of_ble_eq_true rfl⟩ d_L_law_460 ⟨show 13 + j ≤ 600000 by omega, show 2399 + 6 * j ≤ 7302250 by omega⟩ (fun H2 locs hPm hDm hk9 hS => ?_)
        have hPx := keepX hPx hDx hk9
        refine W.lcmp hx hb d_L_law_463 ?_
        rw [lg_cmp_self]
        refine lv_if_eq (tgt := 506) hx hb d_L_law_464 (by decide) (fun _ => ?_) (fun h9 => absurd (rfl) h9)
        refine lv_iinc (v := nI (4 * (j + 1))) (lv' := [(3, .int (nI (4 * (j + 1)))), (2, .ref aM), (1, .ref aX), (0, .ref b)]) hx hb d_L_law_506 hl (k := 0) rfl (nI_p4 j) (by decide) rfl (fun ls hl => ?_)
        refine lv_goto (tgt := 18) hx hb d_L_law_509 (by decide) ?_
        refine W.widen (k := 13 + (j + 1)) (n := 2399 + 6 * (j + 1)) (by omega) (by omega) ?_
        exact ih (j + 1) ((d, n, kk, ht, tk, so, lt, sto, ni, ac, bl, t)) ad _ _ ls (by omega) (by omega) hI hPx hDx hPm hDm hS (lv_sub hl [0, 1, 2, 3] rfl)
      · refine lv_tableIn (off := 437) (tgt := 469) hx hb d_L_law_32 (by decide) (by decide) (by decide) (by decide) ?_
        refine lv_aload_n hx hb d_L_law_469 rfl (lv_at hl 2 rfl) ?_
        refine lv_aload_n hx hb d_L_law_470 rfl (lv_at hl 3 rfl) ?_
        refine lv_iload_n hx hb d_L_law_471 rfl (lv_at hl 0 rfl) ?_
        refine lv_iconst (v := 1) hx hb d_L_law_472 (by decide) ?_
        refine lv_iadd hx hb d_L_law_473 ?_
        rw [nI_1 (4 * j)]
        refine va_sld hx hb hX hbl hbA hS (vp_in_nI (show 4 * j + 1 < L by omega) (by omega)) d_L_law_474 ?_
        rw [nI_clamp (show 4 * j + 1 < 2 ^ 31 by omega)]
        refine zcL (As := [.int (xs (4 * j + 1))]) (rest := []) (ci := 10) E cy_X_count kw_577 kw_578 kw_576 (c_X_count l dC dI c1 c2 c3 (zAX s.heap.size aM m1 m2 m3 m4 m5 m6 m7) aX aC aD aE aA ad d n kk ht tk so lt sto ni ac bl t hI (xs (4 * j + 1))) hKx hPx hDx hS (fun _ h => h.1) 3 rfl zC_X.1 rfl rfl hl.1 rfl (Nat.le_of_ble_eq_true rfl) ⟨Nat.le_of_ble_eq_true rfl, Nat.le_of_ble_eq_true rfl⟩ d_L_law_475 ⟨show 13 + j ≤ 600000 by omega, show 2399 + 6 * j ≤ 7302250 by omega⟩ (fun H1 locs hPx hDx hk9 hS => ?_)
        have hPm := keepM hPm hDm hk9
        clear hk9
        refine lv_aload_n hx hb d_L_law_478 rfl (lv_at hl 1 rfl) ?_
        refine lv_aload_n hx hb d_L_law_479 rfl (lv_at hl 3 rfl) ?_
        refine lv_iload_n hx hb d_L_law_480 rfl (lv_at hl 0 rfl) ?_
        refine lv_iconst (v := 1) hx hb d_L_law_481 (by decide) ?_
        refine lv_iadd hx hb d_L_law_482 ?_
        rw [nI_1 (4 * j)]
        refine va_sld hx hb hX hbl hbA hS (vp_in_nI (show 4 * j + 1 < L by omega) (by omega)) d_L_law_483 ?_
        rw [nI_clamp (show 4 * j + 1 < 2 ^ 31 by omega)]
        refine zcL (As := [.int (xs (4 * j + 1))]) (rest := [.int (countA (d, n, kk, ht, tk, so, lt, sto, ni, ac, bl, t) (xs (4 * j + 1)))]) (ci := 11) E cy_M_count kw_855 kw_856 kw_854 (c_M_count l dC dI g1 g2 g3 g4 g5 g6 g7 (zAM aM m1 m2 m3 m4 m5 m6 m7) aM m1 m2 m3 m4 m5 m6 m7 d n kk ht tk so lt sto ni ac bl t hI (xs (4 * j + 1))) hKm hPm hDm hS hAM 0 rfl zC_M.1 rfl rfl hl.1 rfl (Nat.le_of_ble_eq_true rfl) ⟨Nat.le_of_ble_eq_true rfl, Nat.le_of_ble_eq_true rfl⟩ d_L_law_484 ⟨show 13 + j ≤ 600000 by omega, show 2399 + 6 * j ≤ 7302250 by omega⟩ (fun H2 locs hPm hDm hk9 hS => ?_)
        have hPx := keepX hPx hDx hk9
        refine lv_icmp_eq (tgt := 506) hx hb d_L_law_487 (by decide) (fun _ => ?_) (fun h9 => absurd (rfl) h9)
        refine lv_iinc (v := nI (4 * (j + 1))) (lv' := [(3, .int (nI (4 * (j + 1)))), (2, .ref aM), (1, .ref aX), (0, .ref b)]) hx hb d_L_law_506 hl (k := 0) rfl (nI_p4 j) (by decide) rfl (fun ls hl => ?_)
        refine lv_goto (tgt := 18) hx hb d_L_law_509 (by decide) ?_
        refine W.widen (k := 13 + (j + 1)) (n := 2399 + 6 * (j + 1)) (by omega) (by omega) ?_
        exact ih (j + 1) ((d, n, kk, ht, tk, so, lt, sto, ni, ac, bl, t)) ad _ _ ls (by omega) (by omega) hI hPx hDx hPm hDm hS (lv_sub hl [0, 1, 2, 3] rfl)
      · refine lv_tableIn (off := 460) (tgt := 492) hx hb d_L_law_32 (by decide) (by decide) (by decide) (by decide) ?_
        refine lv_aload_n hx hb d_L_law_492 rfl (lv_at hl 2 rfl) ?_
        refine zcL (As := []) (rest := []) (ci := 10) E cy_X_store kw_581 kw_582 kw_580 (c_X_store l dC dI c1 c2 c3 (zAX s.heap.size aM m1 m2 m3 m4 m5 m6 m7) aX aC aD aE aA ad d n kk ht tk so lt sto ni ac bl t hI) hKx hPx hDx hS (fun _ h => h.1) 3 rfl zC_X.1 rfl rfl hl.1 rfl (Nat.le_of_ble_eq_true rfl) ⟨Nat.le_of_ble_eq_true rfl, Nat.le_of_ble_eq_true rfl⟩ d_L_law_493 ⟨show 13 + j ≤ 600000 by omega, show 2399 + 6 * j ≤ 7302250 by omega⟩ (fun H1 locs hPx hDx hk9 hS => ?_)
        have hPm := keepM hPm hDm hk9
        clear hk9
        refine lv_aload_n hx hb d_L_law_496 rfl (lv_at hl 1 rfl) ?_
        refine zcL (As := []) (rest := [.long (storeA (d, n, kk, ht, tk, so, lt, sto, ni, ac, bl, t))]) (ci := 11) E cy_M_store kw_859 kw_860 kw_858 (c_M_store l dC dI g1 g2 g3 g4 g5 g6 g7 (zAM aM m1 m2 m3 m4 m5 m6 m7) aM m1 m2 m3 m4 m5 m6 m7 d n kk ht tk so lt sto ni ac bl t hI) hKm hPm hDm hS hAM 0 rfl zC_M.1 rfl rfl hl.1 rfl (Nat.le_of_ble_eq_true rfl) ⟨Nat.le_of_ble_eq_true rfl, Nat.le_of_ble_eq_true rfl⟩ d_L_law_497 ⟨show 13 + j ≤ 600000 by omega, show 2399 + 6 * j ≤ 7302250 by omega⟩ (fun H2 locs hPm hDm hk9 hS => ?_)
        have hPx := keepX hPx hDx hk9
        refine W.lcmp hx hb d_L_law_500 ?_
        rw [lg_cmp_self]
        refine lv_if_eq (tgt := 506) hx hb d_L_law_501 (by decide) (fun _ => ?_) (fun h9 => absurd (rfl) h9)
        refine lv_iinc (v := nI (4 * (j + 1))) (lv' := [(3, .int (nI (4 * (j + 1)))), (2, .ref aM), (1, .ref aX), (0, .ref b)]) hx hb d_L_law_506 hl (k := 0) rfl (nI_p4 j) (by decide) rfl (fun ls hl => ?_)
        refine lv_goto (tgt := 18) hx hb d_L_law_509 (by decide) ?_
        refine W.widen (k := 13 + (j + 1)) (n := 2399 + 6 * (j + 1)) (by omega) (by omega) ?_
        exact ih (j + 1) ((d, n, kk, ht, tk, so, lt, sto, ni, ac, bl, t)) ad _ _ ls (by omega) (by omega) hI hPx hDx hPm hDm hS (lv_sub hl [0, 1, 2, 3] rfl)
      · refine lv_tableOut (tgt := 506) hx hb d_L_law_32 (by decide) (by decide) ?_
        refine lv_iinc (v := nI (4 * (j + 1))) (lv' := [(3, .int (nI (4 * (j + 1)))), (2, .ref aM), (1, .ref aX), (0, .ref b)]) hx hb d_L_law_506 hl (k := 0) rfl (nI_p4 j) (by decide) rfl (fun ls hl => ?_)
        refine lv_goto (tgt := 18) hx hb d_L_law_509 (by decide) ?_
        refine W.widen (k := 13 + (j + 1)) (n := 2399 + 6 * (j + 1)) (by omega) (by omega) ?_
        exact ih (j + 1) ((d, n, kk, ht, tk, so, lt, sto, ni, ac, bl, t)) ad _ _ ls (by omega) (by omega) hI hPx hDx hPm hDm hS (lv_sub hl [0, 1, 2, 3] rfl)
      · refine lv_tableOut (tgt := 506) hx hb d_L_law_32 (by decide) (by decide) ?_
        refine lv_iinc (v := nI (4 * (j + 1))) (lv' := [(3, .int (nI (4 * (j + 1)))), (2, .ref aM), (1, .ref aX), (0, .ref b)]) hx hb d_L_law_506 hl (k := 0) rfl (nI_p4 j) (by decide) rfl (fun ls hl => ?_)
        refine lv_goto (tgt := 18) hx hb d_L_law_509 (by decide) ?_
        refine W.widen (k := 13 + (j + 1)) (n := 2399 + 6 * (j + 1)) (by omega) (by omega) ?_
        exact ih (j + 1) ((d, n, kk, ht, tk, so, lt, sto, ni, ac, bl, t)) ad _ _ ls (by omega) (by omega) hI hPx hDx hPm hDm hS (lv_sub hl [0, 1, 2, 3] rfl)
    · refine lv_icmp_gt (tgt := 512) hx hb d_L_law_23 (by decide) (fun _ => ?_) (fun h9 => absurd (lw_end hL hj (by omega)) h9)
      refine lv_iconst (v := 1) hx hb d_L_law_512 (by decide) ?_
      refine va_forget (fun q hq => hS.2.2 q hq) ?_
      refine W.widen (k := 600000) (n := 7302250) (by omega) (by omega) ?_
      exact lw_ret hx hb hr hlocks d_L_law_513
