/-! contracts of methods that make cells -/
def zB (U : State) : Prop := va_AO "CoastLamps$Lamp" U ∧ ∀ k, k < 9 → va_Nw (.castable (R_K k) "CoastLamps$Lamp") U
theorem zB.warm {s U : State} (hW : s.WarmedH U.vm) (h : zB s) : zB U := ⟨va_AO.moved hW.alike h.1, fun k hk => va_Nw.warmC hW (h.2 k hk)⟩
theorem zB.call {U : State} {g : JFrame} {mk : MethodId} {a : Array Value} (h : zB U) : zB (U.calling g mk a) := ⟨va_AO.moved (u := U) (U := U.calling g mk a) (Vm.Alike.refl U.vm) h.1, fun k hk => va_Nw.same rfl (rfl : U.vm = (U.calling g mk a).vm) (h.2 k hk)⟩
def zPa (D : va_G) (tys : List (ClassId × FieldType)) (A : Nat → Prop) (w : va_W) (U : State) : Prop := zW D tys A w U ∧ (∀ q : Nat, U.heap.size ≤ q → A q) ∧ zB U
abbrev zRa (fr lo mc ms : Nat) : Room := { frames := fr, cells := mc, slots := ms, locals := lo }
def zQa (A : Nat → Prop) (Post : Option Value → State → Prop) : Array Value → State → Outcome → State → Prop := fun _ st oc t => ∃ rv, oc = .returned rv ∧ Post rv t ∧ va_F A st t
def zMa (l : Launch) (y : MethodName) (b : ByteArray) (n : Nat) (r : Option FieldType) (fr lo mc ms : Nat) (as : List Value) (D : va_G) (tys : List (ClassId × FieldType)) (A : Nat → Prop) (w : va_W) (Post : Option Value → State → Prop) : Prop :=
  Met l y (.code y b n r :: tbl) (zRa fr lo mc ms) (va_Pc as (zPa D tys A w)) (zQa A Post) mc ms A
theorem zMa_of {l : Launch} {y : MethodName} {b : ByteArray} {n : Nat} {r : Option FieldType} {fr lo mc ms : Nat} {as : List Value} {D : va_G} {tys : List (ClassId × FieldType)} {A : Nat → Prop} {w : va_W} {Post : Option Value → State → Prop} (own : String) (ho : y.cls = own) (hy : plainName own = true) (hn : (lg_sl as).length ≤ n)
    (body : ∀ (p : Program) (e : Env) (s : State) (m : MethodId) (below : List Frame) (meth : Method) (c : Code) (ls : Array Slot), zE p s m as.toArray meth c own b n r → meth.name = y.name → zB s → (∀ q : Nat, s.heap.size ≤ q → A q) → va_P D classes w s.heap → va_K D classes tys s → va_D A w → va_S A s.heap s.heap [] → lv_has ls n (lv_args 0 as) →
      W p l e (zRa fr lo mc ms) s m as.toArray below meth c s.heap [] 0 0 (MQ below (zQa A Post) as.toArray s mc ms A) (F0 m 0 ls [])) : zMa l y b n r fr lo mc ms as D tys A w Post := by
  subst ho
  refine Met.ofW (cc := b) (maxL := n) (ret := r) hy rfl ?_
  intro p e s m args below meth c s₁ B hml hv
  obtain ⟨rfl, ⟨hP, hK, hD⟩, hA, hB⟩ := hv
  have hl := lv_entry as (n := n) hn
  have hts := atoms_spec (ws := Cond.code y b n r :: tbl) B.pre
  rw [lg_entry_eq]
  exact body p e s m below meth c _ ⟨B.exec, B.bytes, hml, findClass_of_methodNamed B.named, fun w h => hts w (List.mem_cons_of_mem _ h), B.returns, B.notSynchronized⟩ (name_of_methodNamed B.named B.method).1 hB hA hP hK hD va_S.rf hl
theorem zM_ofI {l : Launch} {y : MethodName} {b : ByteArray} {n : Nat} {r : Option FieldType} {fr lo : Nat} {as : List Value} {D : va_G} {tys : List (ClassId × FieldType)} {A : Nat → Prop} {w w2 : va_W} {rv : Option Value} (own : String) (ho : y.cls = own) (hy : plainName own = true) (hn : (lg_sl as).length ≤ n)
    (body : ∀ (p : Program) (e : Env) (s : State) (m : MethodId) (below : List Frame) (meth : Method) (c : Code) (ls : Array Slot), zE p s m as.toArray meth c own b n r → meth.name = y.name → va_P D classes w s.heap → va_K D classes tys s → va_D A w → va_S A s.heap s.heap [] → lv_has ls n (lv_args 0 as) →
      W p l e (zR fr lo) s m as.toArray below meth c s.heap [] 0 0 (MQ below (zQ D tys A w2 rv) as.toArray s 0 0 A) (F0 m 0 ls [])) : zM l y b n r fr lo as D tys A w w2 rv := by
  subst ho
  refine Met.ofW (cc := b) (maxL := n) (ret := r) hy rfl ?_
  intro p e s m args below meth c s₁ B hml hv
  obtain ⟨rfl, hP, hK, hD⟩ := hv
  have hl := lv_entry as (n := n) hn
  have hts := atoms_spec (ws := Cond.code y b n r :: tbl) B.pre
  rw [lg_entry_eq]
  exact body p e s m below meth c _ ⟨B.exec, B.bytes, hml, findClass_of_methodNamed B.named, fun w h => hts w (List.mem_cons_of_mem _ h), B.returns, B.notSynchronized⟩ (name_of_methodNamed B.named B.method).1 hP hK hD va_S.rf hl
theorem zpA {ws r : va_W} {x : Nat × va_E} : (ws ++ x :: r)[ws.length]? = some x := by simp
theorem zpS {ws r : va_W} {x y : Nat × va_E} : (ws ++ x :: r).set ws.length y = ws ++ y :: r := by simp [List.set_append]
section ZA
variable {p : Program} {l : Launch} {e : Env} {R : Room} {s : State} {m : MethodId} {args : Array Value} {below : List Frame} {meth : Method} {c : Code} {H : Heap} {locs : List Loc} {cells slots : Nat} {Q : State → Prop}
variable {pc : Nat} {ls : Array Slot} {D : va_G} {tys : List (ClassId × FieldType)} {A A0 : Nat → Prop} {own : String} {b : ByteArray} {n : Nat} {r : Option FieldType}
theorem zputF {C ref : String} {T : u_T} {N ci idx a : Nat} {fs rest : List Value} {ws : va_W} {H0 : Heap} {ty : FieldType} (E : zE p s m args meth c own b n r) (hnm0 : meth.name = "<init>") (hK : va_K D classes tys s) (hP : va_P D classes ws H) (hD : va_D A ws) (hS : va_S A H0 H locs) (q0 : Nat) (he : ws[q0]? = some (a, .inr (ci, fs))) (hc : zC ci C T N) (ty0 : Nat → FieldType) (hty : ∀ k, k < N → parseFieldDescriptor (T k).2.2.1 = some (ty0 k)) (hnm : ∀ a, a < N → ∀ b, b < N → a ≠ b → (T a).2.1 ≠ (T b).2.1) (k : Nat) (hk : k < N) (hlink : Cond.fieldLink own idx ref (T k).2.1 (T k).2.2.1 ∈ tbl) (hsame : (T k).1 = ref) (hfin : (T k).2.2.2 = true) (hdecl : (T k).1 = own) (hte : ty0 k = ty) {v : Value} (hn : narrow ty v = v) (hfit : fits ty v = true) (hl : k < fs.length) (hd : decode b pc = .ok (.putfield idx, 3)) {ws2 : va_W} (he2 : ws.set q0 (a, .inr (ci, fs.set k v)) = ws2)
    (kk : ∀ (H1 : Heap) (locs1 : List Loc), va_P D classes ws2 H1 → va_D A ws2 → va_S A H0 H1 locs1 → W p l e R s m args below meth c H1 locs1 cells slots Q (F0 m (pc + 3) ls rest)) : W p l e R s m args below meth c H locs cells slots Q (F0 m pc ls (v :: .ref a :: rest)) := by
  obtain ⟨hx, hb, hml, ho, hts, hr, hlk⟩ := E
  subst he2; subst hte
  exact va_putF (ref := ref) hx hb hts hc.2 ty0 hty hnm ho hK hP hD hS q0 he hc.1 k hk (hts _ hlink) (by rw [hsame]; exact fun _ h => h) hfin hnm0 hdecl (hty k hk) hn hfit hl hd kk
/-- a constructor that makes nothing -/
theorem zcI {y : MethodName} {b' : ByteArray} {n' : Nat} {np fr lo idx : Nat} {As rest st : List Value} {a : Nat} {w w2 : va_W} {rv : Option Value} {H0 : Heap} (E : zE p s m args meth c own b n r) (hY : zY y b' n' none np) (hin : Cond.instanceMethod y ∈ tbl) (hy1 : y.name = "<init>") (hlink : Cond.methodLink own idx y ∈ tbl)
    (hM : zM l y b' n' none fr lo (.ref a :: As) D tys A w w2 rv) (hK : va_K D classes tys s) (hP : va_P D classes w H) (hD : va_D A w) (hS : va_S A H0 H locs)
    (hn : As.length = np) (hl : ls.size = n) (hst : st = As.reverse ++ .ref a :: rest) (hroom : (rest.map fun v => v.category).sum ≤ 8) (hR : fr + 1 ≤ R.frames ∧ 8 + (n' + 11) + lo ≤ R.locals) (hd : decode b pc = .ok (.invokespecial idx, 3)) (hcs : cells ≤ R.cells ∧ slots ≤ R.slots)
    (kk : ∀ (H1 : Heap) (locs1 : List Loc), va_P D classes w2 H1 → va_D A w2 → va_S A H0 H1 locs1 → W p l e R s m args below meth c H1 locs1 cells slots Q (F0 m (pc + 3) ls (zst rv rest))) : W p l e R s m args below meth c H locs cells slots Q (F0 m pc ls st) := by
  subst hst
  obtain ⟨hx, hb, hml, ho, hts, hr, hk⟩ := E
  obtain ⟨hcode, hini, hmh, hnp⟩ := hY
  exact zgo (va_runI (As := As) (rest := rest) (own := own) ⟨hx, hb, hml, ho, hts⟩ hM (cwI np hts (z_gd hcode) rfl rfl rfl (hts _ hini) (hts _ hlink) (hts _ hin) hy1 ⟨hmh.1, hmh.2, hnp⟩ hR) ⟨z_blind _ _ _ _ _, fun U hU hW => ⟨rfl, by rw [hU]; exact hP, va_K.moved hW.alike hK, hD⟩⟩ rfl hn hl rfl (lv_room hroom) hd hcs) hS (fun _ h => h) (fun H1 locs1 h1 h2 _ h3 => kk H1 locs1 h1 h2 h3)
/-- behind a call that made cells -/
theorem zgoA {Post : Option Value → State → Prop} {rest st0 : List Value} {a : Array Value} {H0 : Heap} {mc ms : Nat} (hr : va_Run p l e R s m args below meth c H locs cells slots mc ms (F0 m pc ls st0) rest (zQa A Post a) A) (hS : va_S A0 H0 H locs) (hA : ∀ q, A q → A0 q)
    (kk : ∀ (rv : Option Value) (t : State) (H1 : Heap) (locs1 : List Loc), t.heap = H1 → s.vm.Alike t.vm → Post rv t → H.size ≤ H1.size → (∀ q : Nat, q < H.size → ¬ A q → H1[q]? = H[q]?) → va_S A0 H0 H1 locs1 → W p l e R s m args below meth c H1 locs1 (cells + mc) (slots + ms) Q (F0 m (pc + 3) ls (zst rv rest))) : W p l e R s m args below meth c H locs cells slots Q (F0 m pc ls st0) := by
  intro T hT X
  obtain ⟨v, st₀, t, T', L, h0, X', hL, e1, e2, ⟨rv, hv, hp, hz, hk⟩, st⟩ := hr T hT X
  have hv' : v = rv := Outcome.returned.inj hv
  subst hv'
  rw [h0] at hz hk
  obtain ⟨t2, a1, b1⟩ := kk v t T'.heap (locs ++ L) e1.symm (by rw [← e2]; exact X'.warmed.alike) hp (by rw [e1]; exact hz) (fun q h1 h2 => by rw [e1]; exact hk q h1 h2)
    ⟨Nat.le_trans hS.1 (by rw [e1]; exact hz), fun q h1 h2 => by rw [e1, hk q (Nat.lt_of_lt_of_le h1 hS.1) (fun z => h2 (hA q z))]; exact hS.2.1 q h1 h2, fun q hq => by
      rcases List.mem_append.mp hq with h | h
      · exact hS.2.2 q h
      · exact hA _ (hL q h)⟩ T' rfl X'
  refine ⟨t2, st t2 ?_, b1⟩
  cases v <;> exact a1
theorem z_blindA (as : List Value) (D : va_G) (tys : List (ClassId × FieldType)) (A : Nat → Prop) (w : va_W) : FrameBlind (va_Pc as (zPa D tys A w)) := fun a U g mk q => ⟨q.1, ⟨q.2.1.1, va_K.moved (u := U) (U := U.calling g mk a) (Vm.Alike.refl U.vm) q.2.1.2.1, q.2.1.2.2⟩, q.2.2.1, q.2.2.2.call⟩
/-- a constructor that makes cells -/
theorem zcIA {y : MethodName} {b' : ByteArray} {n' : Nat} {np fr lo idx mc ms : Nat} {As rest st : List Value} {a : Nat} {w : va_W} {Post : Option Value → State → Prop} {H0 : Heap} (E : zE p s m args meth c own b n r) (hB : zB s) (hY : zY y b' n' none np) (hin : Cond.instanceMethod y ∈ tbl) (hy1 : y.name = "<init>") (hlink : Cond.methodLink own idx y ∈ tbl)
    (hM : zMa l y b' n' none fr lo mc ms (.ref a :: As) D tys A w Post) (hK : va_K D classes tys s) (hP : va_P D classes w H) (hD : va_D A w) (hS : va_S A0 H0 H locs) (hA : ∀ q : Nat, H.size ≤ q → A q) (hAA : ∀ q, A q → A0 q)
    (hn : As.length = np) (hl : ls.size = n) (hst : st = As.reverse ++ .ref a :: rest) (hroom : (rest.map fun v => v.category).sum ≤ 8) (hR : fr + 1 ≤ R.frames ∧ 8 + (n' + 11) + lo ≤ R.locals) (hd : decode b pc = .ok (.invokespecial idx, 3)) (hcs : cells + mc ≤ R.cells ∧ slots + ms ≤ R.slots)
    (kk : ∀ (rv : Option Value) (t : State) (H1 : Heap) (locs1 : List Loc), t.heap = H1 → s.vm.Alike t.vm → Post rv t → H.size ≤ H1.size → (∀ q : Nat, q < H.size → ¬ A q → H1[q]? = H[q]?) → va_S A0 H0 H1 locs1 → W p l e R s m args below meth c H1 locs1 (cells + mc) (slots + ms) Q (F0 m (pc + 3) ls (zst rv rest))) : W p l e R s m args below meth c H locs cells slots Q (F0 m pc ls st) := by
  subst hst
  obtain ⟨hx, hb, hml, ho, hts, hr, hk⟩ := E
  obtain ⟨hcode, hini, hmh, hnp⟩ := hY
  exact zgoA (va_runI (As := As) (rest := rest) (own := own) ⟨hx, hb, hml, ho, hts⟩ hM (cwI np hts (z_gd hcode) rfl rfl rfl (hts _ hini) (hts _ hlink) (hts _ hin) hy1 ⟨hmh.1, hmh.2, hnp⟩ hR) ⟨z_blindA _ _ _ _ _, fun U hU hW => ⟨rfl, ⟨by rw [hU]; exact hP, va_K.moved hW.alike hK, hD⟩, by rw [hU]; exact hA, hB.warm hW⟩⟩ rfl hn hl rfl (lv_room hroom) hd hcs) hS hAA kk
/-- a virtual call that makes cells -/
theorem zcVA {y : MethodName} {b' : ByteArray} {n' : Nat} {r' : Option FieldType} {np fr lo idx ci N mc ms : Nat} {As rest st : List Value} {a : Nat} {w : va_W} {Post : Option Value → State → Prop} {C : String} {T : u_T} {fs : List Value} {H0 : Heap} (E : zE p s m args meth c own b n r) (hB : zB s) (hY : zY y b' n' r' np) (hin : Cond.instanceMethod y ∈ tbl) (hsel : Cond.selects y.cls y y ∈ tbl) (hlink : Cond.methodLink own idx y ∈ tbl)
    (hM : zMa l y b' n' r' fr lo mc ms (.ref a :: As) D tys A w Post) (hK : va_K D classes tys s) (hP : va_P D classes w H) (hD : va_D A w) (hS : va_S A0 H0 H locs) (hA : ∀ q : Nat, H.size ≤ q → A q) (hAA : ∀ q, A q → A0 q) (q0 : Nat) (he : w[q0]? = some (a, .inr (ci, fs))) (hc : classes[ci]? = some (C, T, N)) (hC : C = y.cls)
    (hn : As.length = np) (hl : ls.size = n) (hst : st = As.reverse ++ .ref a :: rest) (hroom : (rest.map fun v => v.category).sum ≤ 8) (hR : fr + 1 ≤ R.frames ∧ 8 + (n' + 11) + lo ≤ R.locals) (hd : decode b pc = .ok (.invokevirtual idx, 3)) (hcs : cells + mc ≤ R.cells ∧ slots + ms ≤ R.slots)
    (kk : ∀ (rv : Option Value) (t : State) (H1 : Heap) (locs1 : List Loc), t.heap = H1 → s.vm.Alike t.vm → Post rv t → H.size ≤ H1.size → (∀ q : Nat, q < H.size → ¬ A q → H1[q]? = H[q]?) → va_S A0 H0 H1 locs1 → W p l e R s m args below meth c H1 locs1 (cells + mc) (slots + ms) Q (F0 m (pc + 3) ls (zst rv rest))) : W p l e R s m args below meth c H locs cells slots Q (F0 m pc ls st) := by
  subst hC; subst hst
  obtain ⟨hx, hb, hml, ho, hts, hr, hk⟩ := E
  obtain ⟨hcode, hini, hmh, hnp⟩ := hY
  refine zgoA (va_runV (As := As) (rest := rest) (own := own) ⟨hx, hb, hml, ho, hts⟩ hM (cwV np hts (z_ga (fun w hw => ?_) (z_gd hcode)) rfl rfl rfl ⟨rfl, hmh.1, hmh.2, hnp⟩ hR) ⟨z_blindA _ _ _ _ _, va_recv hK hP hc he, fun U hU hW => ⟨rfl, ⟨by rw [hU]; exact hP, va_K.moved hW.alike hK, hD⟩, by rw [hU]; exact hA, hB.warm hW⟩⟩ rfl hn hl rfl (lv_room hroom) hd hcs) hS hAA kk
  simp only [List.mem_cons, List.not_mem_nil, or_false] at hw
  rcases hw with rfl | rfl | rfl | rfl <;> assumption
/-- a virtual call, what isn't the callee's being kept -/
theorem zcL {y : MethodName} {b' : ByteArray} {n' : Nat} {r' : Option FieldType} {np fr lo idx ci N : Nat} {As rest st : List Value} {a : Nat} {w w2 : va_W} {rv : Option Value} {C : String} {T : u_T} {fs : List Value} {H0 : Heap} (E : zE p s m args meth c own b n r) (hY : zY y b' n' r' np) (hin : Cond.instanceMethod y ∈ tbl) (hsel : Cond.selects y.cls y y ∈ tbl) (hlink : Cond.methodLink own idx y ∈ tbl)
    (hM : zM l y b' n' r' fr lo (.ref a :: As) D tys A w w2 rv) (hK : va_K D classes tys s) (hP : va_P D classes w H) (hD : va_D A w) (hS : va_S A0 H0 H locs) (hAA : ∀ q, A q → A0 q) (q0 : Nat) (he : w[q0]? = some (a, .inr (ci, fs))) (hc : classes[ci]? = some (C, T, N)) (hC : C = y.cls)
    (hn : As.length = np) (hl : ls.size = n) (hst : st = As.reverse ++ .ref a :: rest) (hroom : (rest.map fun v => v.category).sum ≤ 8) (hR : fr + 1 ≤ R.frames ∧ 8 + (n' + 11) + lo ≤ R.locals) (hd : decode b pc = .ok (.invokevirtual idx, 3)) (hcs : cells ≤ R.cells ∧ slots ≤ R.slots)
    (kk : ∀ (H1 : Heap) (locs1 : List Loc), va_P D classes w2 H1 → va_D A w2 → (∀ q : Nat, q < H.size → ¬ A q → H1[q]? = H[q]?) → va_S A0 H0 H1 locs1 → W p l e R s m args below meth c H1 locs1 cells slots Q (F0 m (pc + 3) ls (zst rv rest))) : W p l e R s m args below meth c H locs cells slots Q (F0 m pc ls st) := by
  subst hC; subst hst
  obtain ⟨hx, hb, hml, ho, hts, hr, hk⟩ := E
  obtain ⟨hcode, hini, hmh, hnp⟩ := hY
  refine zgo (va_runV (As := As) (rest := rest) (own := own) ⟨hx, hb, hml, ho, hts⟩ hM (cwV np hts (z_ga (fun w hw => ?_) (z_gd hcode)) rfl rfl rfl ⟨rfl, hmh.1, hmh.2, hnp⟩ hR) (z_pre hK hP hD q0 he hc) rfl hn hl rfl (lv_room hroom) hd hcs) hS hAA kk
  simp only [List.mem_cons, List.not_mem_nil, or_false] at hw
  rcases hw with rfl | rfl | rfl | rfl <;> assumption
theorem zrvA {Post : Option Value → State → Prop} (E : zE p s m args meth c own b n none) (hS : va_S A s.heap H locs) (hp : ∀ t : State, t.heap = H → s.WarmedH t.vm → Post none t) (hd : decode b pc = .ok (.return_, 1)) : W p l e R s m args below meth c H locs cells slots (MQ below (zQa A Post) args s cells slots A) (F0 m pc ls []) := by
  obtain ⟨hx, hb, hml, ho, hts, hr, hk⟩ := E
  exact W.vret hx hb hr (fun t ht hW => ⟨none, rfl, hp t ht hW, hS.F ht⟩) hS.2.2 hd hk
theorem zriA {Post : Option Value → State → Prop} {v : Int32} (E : zE p s m args meth c own b n (some .int)) (hS : va_S A s.heap H locs) (hp : ∀ t : State, t.heap = H → s.WarmedH t.vm → Post (some (.int v)) t) (hd : decode b pc = .ok (.ireturn, 1)) : W p l e R s m args below meth c H locs cells slots (MQ below (zQa A Post) args s cells slots A) (F0 m pc ls [.int v]) := by
  obtain ⟨hx, hb, hml, ho, hts, hr, hk⟩ := E
  exact W.iret hx hb hr (fun t ht hW => ⟨_, rfl, hp t ht hW, hS.F ht⟩) hS.2.2 hd hk
theorem zraA {Post : Option Value → State → Prop} {C : String} {a : Nat} (E : zE p s m args meth c own b n (some (.object C))) (hS : va_S A s.heap H locs) (hp : ∀ t : State, t.heap = H → s.WarmedH t.vm → Post (some (.ref a)) t) (hd : decode b pc = .ok (.areturn, 1)) : W p l e R s m args below meth c H locs cells slots (MQ below (zQa A Post) args s cells slots A) (F0 m pc ls [.ref a]) := by
  obtain ⟨hx, hb, hml, ho, hts, hr, hk⟩ := E
  exact W.aret hx hb hr (Or.inl ⟨C, rfl⟩) (Or.inr ⟨_, rfl⟩) (fun t ht hW => ⟨_, rfl, hp t ht hW, hS.F ht⟩) hS.2.2 hd hk
theorem zobj {idx : Nat} {a : Nat} {rest : List Value} (E : zE p s m args meth c own b n r) (hl : ls.size = n) (hlink : Cond.methodLink own idx objectInit ∈ tbl) (hin : Cond.instanceMethod objectInit ∈ tbl) (hcode : Cond.code objectInit ⟨#[0xb1]⟩ 1 none ∈ tbl) (hd : decode b pc = .ok (.invokespecial idx, 3)) (hf : 1 ≤ R.frames) (hlo : (rest.map fun v => v.category).sum + 12 ≤ R.locals)
    (kk : W p l e R s m args below meth c H locs cells slots Q (F0 m (pc + 3) ls rest)) : W p l e R s m args below meth c H locs cells slots Q (F0 m pc ls (.ref a :: rest)) := by
  obtain ⟨hx, hb, hml, ho, hts, hr, hk⟩ := E
  refine W.objInit hx hb ho (hts _ hlink) (hts _ hin) (hts _ hcode) rfl (by rw [hml]; exact hl) rfl hd hf (by show 2 * 0 + _ + 12 ≤ _; omega) kk
end ZA
