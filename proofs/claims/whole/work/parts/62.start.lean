theorem va_P_left {D : va_G} {cl : List vw_C} {a b : va_W} {H : Heap} (h : va_P D cl (a ++ b) H) : va_P D cl a H := fun k q hk => h k q (by
  rw [List.getElem?_append_left (List.getElem?_eq_some_iff.mp hk).1]; exact hk)
theorem va_P_right {D : va_G} {cl : List vw_C} {a b : va_W} {H : Heap} (h : va_P D cl (a ++ b) H) : va_P D cl b H := fun k q hk => h (a.length + k) q (by
  rw [List.getElem?_append_right (by omega), Nat.add_sub_cancel_left]; exact hk)
theorem va_D_left {A : Nat → Prop} {a b : va_W} (h : va_D A (a ++ b)) : va_D A a := by
  have g : ∀ (k : Nat) (q : Nat × va_E), a[k]? = some q → (a ++ b)[k]? = some q := fun k q hk => by
    rw [List.getElem?_append_left (List.getElem?_eq_some_iff.mp hk).1]; exact hk
  exact ⟨fun i j p q hp hq e => h.1 i j p q (g i p hp) (g j q hq) e, fun k q hk => h.2 k q (g k q hk)⟩
theorem va_D_rg {a b : va_W} (k : Nat) (q : Nat × va_E) (hk : b[k]? = some q) : (a ++ b)[a.length + k]? = some q := by
  rw [List.getElem?_append_right (by omega), Nat.add_sub_cancel_left]; exact hk
theorem va_D_right {A : Nat → Prop} {a b : va_W} (h : va_D A (a ++ b)) : va_D A b :=
  ⟨fun i j p q hp hq e => by have := h.1 _ _ p q (va_D_rg (a := a) i p hp) (va_D_rg (a := a) j q hq) e; omega, fun k q hk => h.2 _ q (va_D_rg (a := a) k q hk)⟩
theorem va_D_ne {A : Nat → Prop} {a b : va_W} (h : va_D A (a ++ b)) {i j : Nat} {p q : Nat × va_E} (hp : a[i]? = some p) (hq : b[j]? = some q) : p.1 ≠ q.1 := fun e => by
  have hi := (List.getElem?_eq_some_iff.mp hp).1
  have := h.1 i (a.length + j) p q (by rw [List.getElem?_append_left hi]; exact hp) (va_D_rg j q hq) e
  omega
set_option maxHeartbeats 4000000 in
set_option maxRecDepth 100000 in
/-- from the entry, for every script of at most 2048 ints, the law comes to its end with true -/
theorem whole_start {p : Program} {e : Env} {s : State} {m : MethodId} {below : List Frame} {meth : Method} {c : Code} (l : Launch) {b L : Nat} {xs : Nat → Int32} (hL : L ≤ 2048) (C0 : lw_At p s m meth c b L xs) : W p l e room_1 s m #[Value.ref b] below meth c s.heap [] 0 0 (lw_Z below #[Value.ref b] s) (entryFrame m ([Value.ref b] : List Value).toArray 4) := by
  obtain ⟨hx, hb, hr, hml, hown, hts0, hX, hbl, hlocks, hgv⟩ := id C0
  have hts : ∀ w ∈ tbl, w.before #[Value.ref b] s = true := fun w h => hts0 w (tbl_in h)
  have E : zE p s m #[Value.ref b] meth c "CoastLampsLaw" code 4 ret := ⟨hx, hb, hml, hown, hts, hr, hlocks⟩
  have ho : s.vm.findClass "CoastLampsLaw" = some m.cls := hown
  have hA : ∀ q : Nat, s.heap.size ≤ q → (fun q : Nat => s.heap.size ≤ q) q := fun _ h => h
  have hB : zB s := ⟨va_AO.of (hts0 _ kw_42), fun k hk => by
    rcases (show k = 0 ∨ k = 1 ∨ k = 2 ∨ k = 3 ∨ k = 4 ∨ k = 5 ∨ k = 6 ∨ k = 7 ∨ k = 8 by omega) with rfl | rfl | rfl | rfl | rfl | rfl | rfl | rfl | rfl
    · exact va_Nw.of rfl (hts0 _ kw_869)
    · exact va_Nw.of rfl (hts0 _ kw_871)
    · exact va_Nw.of rfl (hts0 _ kw_873)
    · exact va_Nw.of rfl (hts0 _ kw_866)
    · exact va_Nw.of rfl (hts0 _ kw_872)
    · exact va_Nw.of rfl (hts0 _ kw_868)
    · exact va_Nw.of rfl (hts0 _ kw_867)
    · exact va_Nw.of rfl (hts0 _ kw_865)
    · exact va_Nw.of rfl (hts0 _ kw_870)⟩
  obtain ⟨k0, iS0, hKn0⟩ := u_known (C := R_Oil) (T := F_Lamp) (N := 6) (n := 6) hts i_Oil (hts (.instantiable R_Oil 6) kw_89)
  obtain ⟨k1, iS1, hKn1⟩ := u_known (C := R_Round) (T := F_Lamp) (N := 6) (n := 6) hts i_Round (hts (.instantiable R_Round 6) kw_148)
  obtain ⟨k2, iS2, hKn2⟩ := u_known (C := R_Twin) (T := F_Lamp) (N := 6) (n := 6) hts i_Twin (hts (.instantiable R_Twin 6) kw_161)
  obtain ⟨k3, iS3, hKn3⟩ := u_known (C := R_Drum) (T := F_Lamp) (N := 6) (n := 6) hts i_Drum (hts (.instantiable R_Drum 6) kw_174)
  obtain ⟨k4, iS4, hKn4⟩ := u_known (C := R_Swing) (T := F_Lamp) (N := 6) (n := 6) hts i_Swing (hts (.instantiable R_Swing 6) kw_187)
  obtain ⟨k5, iS5, hKn5⟩ := u_known (C := R_Gas) (T := F_Lamp) (N := 6) (n := 6) hts i_Gas (hts (.instantiable R_Gas 6) kw_200)
  obtain ⟨k6, iS6, hKn6⟩ := u_known (C := R_Flare) (T := F_Lamp) (N := 6) (n := 6) hts i_Flare (hts (.instantiable R_Flare 6) kw_213)
  obtain ⟨k7, iS7, hKn7⟩ := u_known (C := R_Buoy) (T := F_Lamp) (N := 6) (n := 6) hts i_Buoy (hts (.instantiable R_Buoy 6) kw_226)
  obtain ⟨k8, iS8, hKn8⟩ := u_known (C := R_Outer) (T := F_Lamp) (N := 6) (n := 6) hts i_Outer (hts (.instantiable R_Outer 6) kw_239)
  obtain ⟨k9, iS9, hKn9⟩ := u_known (C := R_Coast) (T := F_Coast) (N := 3) (n := 3) hts i_Coast (hts (.instantiable R_Coast 3) kw_24)
  obtain ⟨k10, iS10, hKn10⟩ := u_known (C := R_X) (T := F_X) (N := 7) (n := 7) hts i_X (hts (.instantiable R_X 7) kw_16)
  obtain ⟨k11, iS11, hKn11⟩ := u_known (C := R_M) (T := F_M) (N := 13) (n := 13) hts i_M (hts (.instantiable R_M 13) kw_585)
  obtain ⟨dC, dI, hKc⟩ : ∃ (dC : Nat → ClassId) (dI : Nat → Nat → Nat), ∀ (k : Nat) (q : vw_C), classes[k]? = some q → u_Kn s q.1 q.2.1 q.2.2 (dC k) (dI k) := by
    refine ⟨fun k => match k with | 0 => k0 | 1 => k1 | 2 => k2 | 3 => k3 | 4 => k4 | 5 => k5 | 6 => k6 | 7 => k7 | 8 => k8 | 9 => k9 | 10 => k10 | _ => k11, fun k => match k with | 0 => iS0 | 1 => iS1 | 2 => iS2 | 3 => iS3 | 4 => iS4 | 5 => iS5 | 6 => iS6 | 7 => iS7 | 8 => iS8 | 9 => iS9 | 10 => iS10 | _ => iS11, ?_⟩
    intro k q hq
    match k, hq with
    | 0, hq => cases hq; exact hKn0
    | 1, hq => cases hq; exact hKn1
    | 2, hq => cases hq; exact hKn2
    | 3, hq => cases hq; exact hKn3
    | 4, hq => cases hq; exact hKn4
    | 5, hq => cases hq; exact hKn5
    | 6, hq => cases hq; exact hKn6
    | 7, hq => cases hq; exact hKn7
    | 8, hq => cases hq; exact hKn8
    | 9, hq => cases hq; exact hKn9
    | 10, hq => cases hq; exact hKn10
    | 11, hq => cases hq; exact hKn11
    | k + 12, hq => simp [classes] at hq
  have hS : va_S (fun q : Nat => s.heap.size ≤ q) s.heap s.heap [] := va_S.rf
  have hK : va_K (dC, dI) classes [] s := ⟨hKc, fun k q h => by simp at h⟩
  have hP : va_P (dC, dI) classes [] s.heap := fun k q h => by simp at h
  have hD : va_D (fun q : Nat => s.heap.size ≤ q) [] := ⟨fun i j p q h => by simp at h, fun k q h => by simp at h⟩
  have hl := lv_entry ([.ref b]) (n := 4) (Nat.le_of_ble_eq_true rfl)
  rw [lg_entry_eq]
  generalize (lg_sl ([.ref b]) ++ List.replicate (4 - (lg_sl ([.ref b])).length) Slot.unset).toArray = ls at hl ⊢
  have hl : lv_has ls 4 [(0, .ref b)] := hl
  refine va_new (ci := 10) (fs := [.null, .null, .int 0, .int 0, .int 0, .int 0, .long 0]) (C := R_X) (T := F_X) (N := 7) hx hb hts i_X t_X o_X ho (hts _ kw_15) (hts _ kw_16) (hts _ kw_1) hK hP hD hS hA rfl (fun j hj => by rcases (show j = 0 ∨ j = 1 ∨ j = 2 ∨ j = 3 ∨ j = 4 ∨ j = 5 ∨ j = 6 by omega) with rfl | rfl | rfl | rfl | rfl | rfl | rfl <;> rfl) (Nat.le_of_ble_eq_true rfl) (Nat.le_of_ble_eq_true rfl) d_L_law_0 (fun aX H hP hD hS => ?_)
  refine lv_dup hx hb d_L_law_3 rfl ?_
  refine zcIA (As := []) (rest := [.ref aX]) E hB cy_X_init kw_18 rfl kw_17 (c_X_init l dC dI (fun q : Nat => s.heap.size ≤ q) aX) hK hP hD hS (fun q h => Nat.le_trans hS.1 h) (fun _ h => h) rfl hl.1 rfl (Nat.le_of_ble_eq_true rfl) ⟨Nat.le_of_ble_eq_true rfl, Nat.le_of_ble_eq_true rfl⟩ d_L_law_4 ⟨Nat.le_of_ble_eq_true rfl, Nat.le_of_ble_eq_true rfl⟩ (fun rv t9 H locs ht9 hvm hp hz9 hk9 hS => ?_)
  obtain ⟨rfl, aC, aD, aE, aA, c1, c2, c3, hPx, hKx9, hDx⟩ := hp
  rw [ht9] at hPx
  have hKx := va_K.moved hvm.symm hKx9
  refine lv_astore_n (lv' := [(1, .ref aX), (0, .ref b)]) hx hb d_L_law_7 rfl hl (by decide) rfl (fun ls hl => ?_)
  refine va_new (ci := 11) (fs := [.null, .int 0, .null, .null, .null, .null, .null, .long 0, .int 0, .int 0, .int 0, .null, .int 0]) (C := R_M) (T := F_M) (N := 13) hx hb hts i_M t_M o_M ho (hts _ kw_584) (hts _ kw_585) (hts _ kw_3) hK hPx hDx hS hA rfl (fun j hj => by rcases (show j = 0 ∨ j = 1 ∨ j = 2 ∨ j = 3 ∨ j = 4 ∨ j = 5 ∨ j = 6 ∨ j = 7 ∨ j = 8 ∨ j = 9 ∨ j = 10 ∨ j = 11 ∨ j = 12 by omega) with rfl | rfl | rfl | rfl | rfl | rfl | rfl | rfl | rfl | rfl | rfl | rfl | rfl <;> rfl) (Nat.le_of_ble_eq_true rfl) (Nat.le_of_ble_eq_true rfl) d_L_law_8 (fun aM H hP hD hS => ?_)
  refine lv_dup hx hb d_L_law_11 rfl ?_
  refine zcIA (As := []) (rest := [.ref aM]) E hB cy_M_init kw_587 rfl kw_586 (c_M_init l dC dI (fun q : Nat => s.heap.size ≤ q) aM (xW c1 c2 c3 aX aC aD aE aA (fun _ => 0) zA0)) hK hP hD hS (fun q h => Nat.le_trans hS.1 h) (fun _ h => h) rfl hl.1 rfl (Nat.le_of_ble_eq_true rfl) ⟨Nat.le_of_ble_eq_true rfl, Nat.le_of_ble_eq_true rfl⟩ d_L_law_12 ⟨Nat.le_of_ble_eq_true rfl, Nat.le_of_ble_eq_true rfl⟩ (fun rv t9 H locs ht9 hvm hp hz9 hk9 hS => ?_)
  obtain ⟨rfl, g1, g2, g3, g4, g5, g6, g7, m1, m2, m3, m4, m5, m6, m7, hP9, hKm9, hD9⟩ := hp
  rw [ht9, mW_0] at hP9
  rw [mW_0] at hD9
  have hKm := va_K.moved hvm.symm hKm9
  have hDr := va_D_right hD9
  have hPx : va_P (dC, dI) classes (xW c1 c2 c3 aX aC aD aE aA (fun _ => 0) zA0) H := va_P_left hP9
  have hPm : va_P (dC, dI) classes (mW g1 g2 g3 g4 g5 g6 g7 aM m1 m2 m3 m4 m5 m6 m7 zA0) H := va_P_right hP9
  have hAM : ∀ q, zAM aM m1 m2 m3 m4 m5 m6 m7 q → (fun q : Nat => s.heap.size ≤ q) q := by
    intro q h
    rcases h with rfl | rfl | rfl | rfl | rfl | rfl | rfl | rfl
    · exact hDr.2 0 _ rfl
    · exact hDr.2 1 _ rfl
    · exact hDr.2 2 _ rfl
    · exact hDr.2 3 _ rfl
    · exact hDr.2 4 _ rfl
    · exact hDr.2 5 _ rfl
    · exact hDr.2 6 _ rfl
    · exact hDr.2 7 _ rfl
  have hne : ∀ (k : Nat) (q : Nat × va_E), (xW c1 c2 c3 aX aC aD aE aA (fun _ => 0) zA0)[k]? = some q → ¬ zAM aM m1 m2 m3 m4 m5 m6 m7 q.1 := by
    intro k q hk h
    rcases h with h | h | h | h | h | h | h | h
    · exact va_D_ne hD9 hk (j := 0) rfl h
    · exact va_D_ne hD9 hk (j := 1) rfl h
    · exact va_D_ne hD9 hk (j := 2) rfl h
    · exact va_D_ne hD9 hk (j := 3) rfl h
    · exact va_D_ne hD9 hk (j := 4) rfl h
    · exact va_D_ne hD9 hk (j := 5) rfl h
    · exact va_D_ne hD9 hk (j := 6) rfl h
    · exact va_D_ne hD9 hk (j := 7) rfl h
  have hDx : va_D (zAX s.heap.size aM m1 m2 m3 m4 m5 m6 m7) (xW c1 c2 c3 aX aC aD aE aA (fun _ => 0) zA0) := ⟨(va_D_left hD9).1, fun k q hk => ⟨(va_D_left hD9).2 k q hk, hne k q hk⟩⟩
  have hDm : va_D (zAM aM m1 m2 m3 m4 m5 m6 m7) (mW g1 g2 g3 g4 g5 g6 g7 aM m1 m2 m3 m4 m5 m6 m7 zA0) := by
    refine ⟨hDr.1, fun k q hk => ?_⟩
    match k, hk with
    | 0, hk => cases hk; exact Or.inl rfl
    | 1, hk => cases hk; exact Or.inr (Or.inl rfl)
    | 2, hk => cases hk; exact Or.inr (Or.inr (Or.inl rfl))
    | 3, hk => cases hk; exact Or.inr (Or.inr (Or.inr (Or.inl rfl)))
    | 4, hk => cases hk; exact Or.inr (Or.inr (Or.inr (Or.inr (Or.inl rfl))))
    | 5, hk => cases hk; exact Or.inr (Or.inr (Or.inr (Or.inr (Or.inr (Or.inl rfl)))))
    | 6, hk => cases hk; exact Or.inr (Or.inr (Or.inr (Or.inr (Or.inr (Or.inr (Or.inl rfl))))))
    | 7, hk => cases hk; exact Or.inr (Or.inr (Or.inr (Or.inr (Or.inr (Or.inr (Or.inr (rfl)))))))
    | k + 8, hk => exact absurd hk (by show ¬ (([] : va_W)[k]? = some q); simp)
  refine lv_astore_n (lv' := [(2, .ref aM), (1, .ref aX), (0, .ref b)]) hx hb d_L_law_15 rfl hl (by decide) rfl (fun ls hl => ?_)
  refine lv_iconst (v := 0) hx hb d_L_law_16 (by decide) ?_
  refine lv_istore_n (lv' := [(3, .int 0), (2, .ref aM), (1, .ref aX), (0, .ref b)]) hx hb d_L_law_17 rfl hl (by decide) rfl (fun ls hl => ?_)
  refine W.widen (k := 13 + 0) (n := 2399 + 6 * 0) (by decide) (by decide) ?_
  exact law_loop l hL C0 hB dC dI c1 c2 c3 g1 g2 g3 g4 g5 g6 g7 aX aC aD aE aA aM m1 m2 m3 m4 m5 m6 m7 hAM hKx hKm L 0 zA0 (fun _ => 0) H locs ls (by omega) (by decide) zA0_inv hPx hDx hPm hDm hS (by rw [show nI (4 * 0) = 0 from by decide]; exact hl)
-- ===== YOUR PART ENDS =====
set_option maxHeartbeats 4000000 in
theorem lw_walk (l : Launch) (b : Addr) (xs : List Int32) : MetFree l x (headSpec (Jvm.Cond.code x code maxLocals ret :: tables_1) room_1) (lw_P b xs) (fun _ _ _ _ _ => True) lw_Q := by
  refine MetFree.of_bodyS (code := code) (maxLocals := maxLocals) (ret := ret) (by decide) ?_ ?_
  · intro args s m h hn
    obtain ⟨meth, c, h1, h2, h3, h4, h5, h6, -, -⟩ := Cond.code_spec hn (atoms_spec (ws := Jvm.Cond.code x code maxLocals ret :: tables_1) h _ List.mem_cons_self)
    exact ⟨meth, c, h1, h2, h3, h4, h5, h6⟩
  · intro p e s m args below meth c s₁ B hml0 hP _
    obtain ⟨rfl, hx, hbd, hgv⟩ := hP
    obtain ⟨scr, harrAt, hlist, hof, hsmall⟩ := hx
    obtain ⟨hcb, hkn, -, -⟩ := State.arrayAt?_spec harrAt
    have hown : s.vm.findClass R_law = some m.cls := findClass_of_methodNamed B.named
    have hts0 : ∀ c ∈ (Jvm.Cond.code x code maxLocals ret :: tables_1), c.before #[Value.ref b] s = true := atoms_spec (ws := Jvm.Cond.code x code maxLocals ret :: tables_1) B.pre
    have hts : ∀ w ∈ lw_tbl, w.before #[Value.ref b] s = true := k2_hts_sels lw_privs (fun w hw => hts0 w (List.mem_cons_of_mem _ hw)) lw_privs_ok
    have hml : c.maxLocals = 4 := B.maxLocals_eq (hts0 _ List.mem_cons_self)
    have X₀ : Stand p l e room_1 s m #[Value.ref b] below meth c s₁ [] 0 0 := Stand.of_body B
    have hh0 : s₁.heap = s.heap := by rw [B.state]; rfl
    have hsz : scr.slots.size = xs.length := by rw [← Array.length_toList, hlist, List.length_map]
    have hval : ∀ j : Nat, j < xs.length → scr.slots[j]? = some (.int (xs.getD j 0)) := fun j hj => by
      rw [← Array.getElem?_toList, hlist]
      simp [hj]
    have hbl : b < s.heap.size := (Array.getElem?_eq_some_iff.mp hcb).1
    have hX : va_X b xs.length (fun j => xs.getD j 0) s s.heap := ⟨scr, hcb, hof, hkn, hsz, hval⟩
    have K : W p l e room_1 s m #[Value.ref b] below meth c s₁.heap [] 0 0 (lw_Z below #[Value.ref b] s) (entryFrame m ([Value.ref b] : List Value).toArray 4) := by
      rw [hh0]
      exact whole_start l hbd ⟨B.exec, B.bytes, B.returns, hml, hown, hts, hX, hbl, B.notSynchronized, hgv⟩
    obtain ⟨t, a1, o, b1, b2, b3⟩ := K s₁ rfl X₀
    exact ⟨t, o, a1, b1, b2, b3⟩
theorem lw_pre_spec {args : Array Value} {s : State} (h : (Jvm.Cond.and given_1 narrow_1).before args s = true) (hr : rest_1_c.before args s = true) : ∃ (b : Addr) (xs : List Int32), lw_P b xs args s := by
  have hs := flat_of_before _ h
  have hq := flat_of_before _ hr
  have hc : (Cond.count 1).before args s = true := hs _ (by decide +kernel)
  have harr : (Cond.arrayOf (.arg 0) .int).before args s = true := hs _ (by decide +kernel)
  have hle : (Cond.le (.length (.arg 0)) (.int 2048)).before args s = true := hs _ (by decide +kernel)
  have hlen : (Cond.isInt (.length (.arg 0))).before args s = true := hq _ (by decide +kernel)
  have hall : (Cond.all (.arg 0) (.isInt (.elem (.arg 0) (.index 0)))).before args s = true := hq _ (by decide +kernel)
  obtain ⟨b, xs, hb, hx⟩ := State.ints_of_pre rfl harr hlen hall
  have hsm : xs.length < 2 ^ 31 := hx.choose_spec.2.2.2
  have hev : (Term.length (.arg 0)).eval args s none [] s = some (.int xs.length.toInt32) := hx.length_eval hb
  have hv := Cond.le_ints hev (show (Term.int 2048).eval args s none [] s = some (.int 2048) from rfl)
  have hd : xs.length.toInt32 ≤ 2048 := by
    simpa [Cond.before, Cond.holds, hv] using hle
  have hN : xs.length ≤ 2048 := (Int32.ofNat_le_ofNat hsm (by decide)).mp (show Int32.ofNat xs.length ≤ Int32.ofNat 2048 from hd)
  exact ⟨b, xs, Cond.one_arg hc (show args[0]? = some (.ref b) from hb), hx, hN, h⟩
theorem lw_comes (l : Launch) : Comes l x (Jvm.Cond.code x code maxLocals ret :: tables_1) room_1 (fun tb e args s => Calls_1 tb e args s ∧ rest_1 tb e args s ∧ Pre_1 tb e args s)
    (fun _ _ args s o t => lw_Q args s o t) := by
  intro p e ha hc hk s m args below hf hfit hheap happ hpre
  obtain ⟨b, xs, hP⟩ := lw_pre_spec hpre.2.2 hpre.2.1
  obtain ⟨k, o, h1, h2, h3, hQ⟩ := lw_walk l b xs p e ha hc hk s m args below hf ((Spec.applies_iff_loose hf).mp happ).1 hP trivial
  exact ⟨k, o, h1, h2, h3, hQ⟩
theorem lw_frame {s t : State} {o : Outcome} {args : Array Value} (h : Framed s o t [] 600000 7302250) :
    Framed s o t (fieldLocs frame_1_writes args s ++ arrayLocs frame_1_arrays args s ++ staticLocs frame_1_statics s) 600000 7302250 := h
theorem lw_limb (L : Cond) (hL : ∀ (args : Array Value) (s t : State), L.after args s (.returned (some (.int 1))) t = true) :
    ArmFor flags0 classFile x code maxLocals ret World_1 tables_1 room_1 Calls_1 rest_1 Pre_1
      (fun tb e a s o t => postC L tb e a s o t ∧ Framed s o t (fieldLocs frame_1_writes a s ++ arrayLocs frame_1_arrays a s ++ staticLocs frame_1_statics s) 600000 7302250) := by
  intro l _ _ _ p e ha hc hk s m args below hf hfit hheap happ hpre
  obtain ⟨k, o, h1, h2, h3, rfl, hF⟩ := lw_comes l p e ha hc hk s m args below hf hfit hheap happ hpre
  exact ⟨k, _, h1, h2, h3, hL args s _, lw_frame hF⟩
theorem i_vc : Claimed_1_1 ∧ Claimed_1_2 := ⟨lw_limb limb_1_1 (fun args s t => by simp [limb_1_1, Cond.after, Cond.holds, Cond.value]), lw_limb limb_1_2 (fun args s t => Cond.after_iff.mpr (by
  first | (rw [show limb_1_2 = Cond.eq .result (.int 1) from rfl, Cond.eq_ints (x := 1) (y := 1) rfl rfl]; simp; done) | (simp [limb_1_2, Cond.value, Term.eval]; done)))⟩

