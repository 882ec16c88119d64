/-! my own rows: a contract with an exact end, over a whole world of cells, no cell made -/
abbrev zR (fr lo : Nat) : Room := { frames := fr, cells := 0, slots := 0, locals := lo }
def zW (D : va_G) (tys : List (ClassId × FieldType)) (A : Nat → Prop) (w : va_W) (U : State) : Prop := va_P D classes w U.heap ∧ va_K D classes tys U ∧ va_D A w
def zQ (D : va_G) (tys : List (ClassId × FieldType)) (A : Nat → Prop) (w2 : va_W) (rv : Option Value) : Array Value → State → Outcome → State → Prop := fun _ st oc t => oc = .returned rv ∧ zW D tys A w2 t ∧ va_F A st t
def zM (l : Launch) (y : MethodName) (b : ByteArray) (n : Nat) (r : Option FieldType) (fr lo : Nat) (as : List Value) (D : va_G) (tys : List (ClassId × FieldType)) (A : Nat → Prop) (w w2 : va_W) (rv : Option Value) : Prop :=
  Met l y (.code y b n r :: tbl) (zR fr lo) (va_Pc as (zW D tys A w)) (zQ D tys A w2 rv) 0 0 A
/-- what a method's body has at hand -/
def zE (p : Program) (s : State) (m : MethodId) (args : Array Value) (meth : Method) (c : Code) (own : String) (b : ByteArray) (n : Nat) (r : Option FieldType) : Prop :=
  p.tables.exec = Jvm.exec ∧ c.code = b ∧ c.maxLocals = n ∧ s.vm.findClass own = some m.cls ∧ (∀ w ∈ tbl, w.before args s = true) ∧ meth.sig.returnType = r ∧ meth.locks = false
theorem zM_of {l : Launch} {y : MethodName} {b : ByteArray} {n : Nat} {r : Option FieldType} {fr lo : Nat} {as : List Value} {D : va_G} {tys : List (ClassId × FieldType)} {A : Nat → Prop} {w w2 : va_W} {rv : Option Value} (own : String) (ho : y.cls = own) (hy : plainName own = true) (hn : (lg_sl as).length ≤ n)
    (body : ∀ (p : Program) (e : Env) (s : State) (m : MethodId) (below : List Frame) (meth : Method) (c : Code) (ls : Array Slot), zE p s m as.toArray meth c own b n r → va_P D classes w s.heap → va_K D classes tys s → va_D A w → va_S A s.heap s.heap [] → lv_has ls n (lv_args 0 as) →
      W p l e (zR fr lo) s m as.toArray below meth c s.heap [] 0 0 (MQ below (zQ D tys A w2 rv) as.toArray s 0 0 A) (F0 m 0 ls [])) : zM l y b n r fr lo as D tys A w w2 rv := by
  subst ho
  refine Met.ofW (cc := b) (maxL := n) (ret := r) hy rfl ?_
  intro p e s m args below meth c s₁ B hml hv
  obtain ⟨rfl, hP, hK, hD⟩ := hv
  have hl := lv_entry as (n := n) hn
  have hts := atoms_spec (ws := Cond.code y b n r :: tbl) B.pre
  rw [lg_entry_eq]
  exact body p e s m below meth c _ ⟨B.exec, B.bytes, hml, findClass_of_methodNamed B.named, fun w h => hts w (List.mem_cons_of_mem _ h), B.returns, B.notSynchronized⟩ hP hK hD va_S.rf hl
/-- what the tables say of a method that is called -/
def zY (y : MethodName) (b : ByteArray) (n : Nat) (r : Option FieldType) (np : Nat) : Prop :=
  Cond.code y b n r ∈ tbl ∧ Cond.initialized y.cls ∈ tbl ∧ (y.cls ≠ "java/lang/invoke/MethodHandle" ∧ y.cls ≠ "java/lang/invoke/VarHandle") ∧ (parseMethodDescriptor y.desc).map (fun d => d.parameters.length) = some np
theorem z_gd {y : MethodName} {b : ByteArray} {n : Nat} {r : Option FieldType} (h : Cond.code y b n r ∈ tbl) : GoodIn tbl (.code y b n r :: tbl) := fun w hw => by
  rcases List.mem_cons.mp hw with rfl | hw
  · exact ⟨h, tbl_good h⟩
  · exact ⟨hw, tbl_good hw⟩
theorem z_ga {a b : List Cond} (ha : ∀ w ∈ a, w ∈ tbl) (hb : GoodIn tbl b) : GoodIn tbl (a ++ b) := fun w hw => by
  rcases List.mem_append.mp hw with h | h
  · exact ⟨ha w h, tbl_good (ha w h)⟩
  · exact hb w h
theorem z_blind (as : List Value) (D : va_G) (tys : List (ClassId × FieldType)) (A : Nat → Prop) (w : va_W) : FrameBlind (va_Pc as (zW D tys A w)) := fun a U g mk q => ⟨q.1, q.2.1, va_K.moved (u := U) (U := U.calling g mk a) (Vm.Alike.refl U.vm) q.2.2.1, q.2.2.2⟩
abbrev zst (rv : Option Value) (rest : List Value) : List Value := match rv with
  | none => rest
  | some v => v :: rest
section ZC
variable {p : Program} {l : Launch} {e : Env} {R : Room} {s : State} {m : MethodId} {args : Array Value} {below : List Frame} {meth : Method} {c : Code} {H : Heap} {locs : List Loc} {cells slots : Nat} {Q : State → Prop}
variable {pc : Nat} {ls : Array Slot} {D : va_G} {tys : List (ClassId × FieldType)} {A A0 : Nat → Prop} {own : String} {b : ByteArray} {n : Nat} {r : Option FieldType}
/-- behind a call -/
theorem zgo {rv : Option Value} {w2 : va_W} {rest st0 : List Value} {a : Array Value} {H0 : Heap} (hr : va_Run p l e R s m args below meth c H locs cells slots 0 0 (F0 m pc ls st0) rest (zQ D tys A w2 rv a) A) (hS : va_S A0 H0 H locs) (hA : ∀ q, A q → A0 q)
    (kk : ∀ (H1 : Heap) (locs1 : List Loc), va_P D classes w2 H1 → va_D A w2 → (∀ q : Nat, q < H.size → ¬ A q → H1[q]? = H[q]?) → va_S A0 H0 H1 locs1 → W p l e R s m args below meth c H1 locs1 cells slots Q (F0 m (pc + 3) ls (zst rv rest))) : W p l e R s m args below meth c H locs cells slots Q (F0 m pc ls st0) := by
  intro T hT X
  obtain ⟨v, st₀, t, T', L, h0, X', hL, e1, e2, ⟨hv, ⟨hP, hK, hD⟩, hz, hk⟩, st⟩ := hr T hT X
  have hv' : v = rv := Outcome.returned.inj hv
  subst hv'
  rw [h0] at hz hk
  obtain ⟨t2, a1, b1⟩ := kk T'.heap (locs ++ L) (by rw [e1]; exact hP) hD (fun q h1 h2 => by rw [e1]; exact hk q h1 h2)
    ⟨Nat.le_trans hS.1 (by rw [e1]; exact hz), fun q h1 h2 => by rw [e1, hk q (Nat.lt_of_lt_of_le h1 hS.1) (fun z => h2 (hA q z))]; exact hS.2.1 q h1 h2, fun q hq => by
      rcases List.mem_append.mp hq with h | h
      · exact hS.2.2 q h
      · exact hA _ (hL q h)⟩ T' rfl X'
  refine ⟨t2, st t2 ?_, b1⟩
  cases v <;> exact a1
theorem z_pre {C : String} {T : u_T} {N ci : Nat} {a : Nat} {fs : List Value} {w : va_W} {As : List Value} (hK : va_K D classes tys s) (hP : va_P D classes w H) (hD : va_D A w) (q0 : Nat) (he : w[q0]? = some (a, .inr (ci, fs))) (hc : classes[ci]? = some (C, T, N)) : PreV s H C a (va_Pc (.ref a :: As) (zW D tys A w)) As :=
  ⟨z_blind _ _ _ _ _, va_recv hK hP hc he, fun U hU hW => ⟨rfl, by rw [hU]; exact hP, va_K.moved hW.alike hK, hD⟩⟩
/-- a virtual call whose reference names the method that runs -/
theorem zcV {y : MethodName} {b' : ByteArray} {n' : Nat} {r' : Option FieldType} {np fr lo idx ci N : Nat} {As rest st : List Value} {a : Nat} {w w2 : va_W} {rv : Option Value} {C : String} {T : u_T} {fs : List Value} (E : zE p s m args meth c own b n r) (hY : zY y b' n' r' np) (hin : Cond.instanceMethod y ∈ tbl) (hsel : Cond.selects y.cls y y ∈ tbl) (hlink : Cond.methodLink own idx y ∈ tbl)
    (hM : zM l y b' n' r' fr lo (.ref a :: As) D tys A w w2 rv) (hK : va_K D classes tys s) (hP : va_P D classes w H) (hD : va_D A w) (hS : va_S A s.heap H locs) (q0 : Nat) (he : w[q0]? = some (a, .inr (ci, fs))) (hc : classes[ci]? = some (C, T, N)) (hC : C = y.cls)
    (hn : As.length = np) (hl : ls.size = n) (hst : st = As.reverse ++ .ref a :: rest) (hroom : (rest.map fun v => v.category).sum ≤ 8) (hR : fr + 1 ≤ R.frames ∧ 8 + (n' + 11) + lo ≤ R.locals) (hd : decode b pc = .ok (.invokevirtual idx, 3)) (hcs : cells ≤ R.cells ∧ slots ≤ R.slots)
    (kk : ∀ (H1 : Heap) (locs1 : List Loc), va_P D classes w2 H1 → va_D A w2 → va_S A s.heap H1 locs1 → W p l e R s m args below meth c H1 locs1 cells slots Q (F0 m (pc + 3) ls (zst rv rest))) : W p l e R s m args below meth c H locs cells slots Q (F0 m pc ls st) := by
  subst hC; subst hst
  obtain ⟨hx, hb, hml, ho, hts, hr, hk⟩ := E
  obtain ⟨hcode, hini, hmh, hnp⟩ := hY
  refine zgo (va_runV (As := As) (rest := rest) (own := own) ⟨hx, hb, hml, ho, hts⟩ hM (cwV np hts (z_ga (fun w hw => ?_) (z_gd hcode)) rfl rfl rfl ⟨rfl, hmh.1, hmh.2, hnp⟩ hR) (z_pre hK hP hD q0 he hc) rfl hn hl rfl (lv_room hroom) hd hcs) hS (fun _ h => h) (fun H1 locs1 h1 h2 _ h3 => kk H1 locs1 h1 h2 h3)
  simp only [List.mem_cons, List.not_mem_nil, or_false] at hw
  rcases hw with rfl | rfl | rfl | rfl <;> assumption
/-- a static call -/
theorem zcS {y : MethodName} {b' : ByteArray} {n' : Nat} {r' : Option FieldType} {np fr lo idx : Nat} {As rest st : List Value} {w w2 : va_W} {rv : Option Value} (E : zE p s m args meth c own b n r) (hY : zY y b' n' r' np) (hin : Cond.static y ∈ tbl) (hlink : Cond.methodLink own idx y ∈ tbl) (hC : y.cls = own)
    (hM : zM l y b' n' r' fr lo As D tys A w w2 rv) (hK : va_K D classes tys s) (hP : va_P D classes w H) (hD : va_D A w) (hS : va_S A s.heap H locs)
    (hn : As.length = np) (hl : ls.size = n) (hst : st = As.reverse ++ rest) (hroom : (rest.map fun v => v.category).sum ≤ 8) (hR : fr + 1 ≤ R.frames ∧ 8 + (n' + 11) + lo ≤ R.locals) (hd : decode b pc = .ok (.invokestatic idx, 3)) (hcs : cells ≤ R.cells ∧ slots ≤ R.slots)
    (kk : ∀ (H1 : Heap) (locs1 : List Loc), va_P D classes w2 H1 → va_D A w2 → va_S A s.heap H1 locs1 → W p l e R s m args below meth c H1 locs1 cells slots Q (F0 m (pc + 3) ls (zst rv rest))) : W p l e R s m args below meth c H locs cells slots Q (F0 m pc ls st) := by
  subst hC; subst hst
  obtain ⟨hx, hb, hml, ho, hts, hr, hk⟩ := E
  obtain ⟨hcode, hini, hmh, hnp⟩ := hY
  refine zgo (va_runS (As := As) (rest := rest) (own := y.cls) ⟨hx, hb, hml, ho, hts⟩ hM (cwS np hts (z_ga (fun w hw => ?_) (z_gd hcode)) rfl rfl rfl ⟨rfl, hmh.1, hmh.2, hnp⟩ hR) ⟨z_blind _ _ _ _ _, fun U hU hW => ⟨rfl, by rw [hU]; exact hP, va_K.moved hW.alike hK, hD⟩⟩ rfl hn hl rfl (lv_room hroom) hd hcs) hS (fun _ h => h) (fun H1 locs1 h1 h2 _ h3 => kk H1 locs1 h1 h2 h3)
  simp only [List.mem_cons, List.not_mem_nil, or_false] at hw
  rcases hw with rfl | rfl | rfl <;> assumption
/-- a virtual call by the reference x (declared by owner), of which the receiver's class C selects y -/
theorem zcU {x y : MethodName} {owner : String} {b' b0 : ByteArray} {n' n0 : Nat} {r' r0 : Option FieldType} {np fr lo idx ci N : Nat} {As rest st : List Value} {a : Nat} {w w2 : va_W} {rv : Option Value} {C : String} {T : u_T} {fs : List Value} (E : zE p s m args meth c own b n r) (hY : zY y b' n' r' np) (hY0 : zY ⟨owner, x.name, x.desc⟩ b0 n0 r0 np) (hin : Cond.instanceMethod y ∈ tbl) (hin0 : Cond.instanceMethod ⟨owner, x.name, x.desc⟩ ∈ tbl) (hsame : Cond.sameMethod x.cls owner x.name x.desc ∈ tbl) (hsel : Cond.selects C x y ∈ tbl) (hlink : Cond.methodLink own idx x ∈ tbl)
    (hM : zM l y b' n' r' fr lo (.ref a :: As) D tys A w w2 rv) (hK : va_K D classes tys s) (hP : va_P D classes w H) (hD : va_D A w) (hS : va_S A s.heap H locs) (q0 : Nat) (he : w[q0]? = some (a, .inr (ci, fs))) (hc : classes[ci]? = some (C, T, N))
    (hn : As.length = np) (hl : ls.size = n) (hst : st = As.reverse ++ .ref a :: rest) (hroom : (rest.map fun v => v.category).sum ≤ 8) (hR : fr + 1 ≤ R.frames ∧ 8 + (n' + 11) + lo ≤ R.locals) (hd : decode b pc = .ok (.invokevirtual idx, 3)) (hcs : cells ≤ R.cells ∧ slots ≤ R.slots)
    (kk : ∀ (H1 : Heap) (locs1 : List Loc), va_P D classes w2 H1 → va_D A w2 → va_S A s.heap H1 locs1 → W p l e R s m args below meth c H1 locs1 cells slots Q (F0 m (pc + 3) ls (zst rv rest))) : W p l e R s m args below meth c H locs cells slots Q (F0 m pc ls st) := by
  subst hst
  obtain ⟨hx, hb, hml, ho, hts, hr, hk⟩ := E
  obtain ⟨hcode, hini, hmh, hnp⟩ := hY
  obtain ⟨hcode0, hini0, hmh0, hnp0⟩ := hY0
  refine zgo (va_runU (x := x) (owner := owner) (As := As) (rest := rest) (own := own) ⟨hx, hb, hml, ho, hts⟩ hM (va_cwO np hts (z_ga (fun w hw => ?_) (z_gd hcode)) rfl rfl rfl hcode0 ⟨hmh0.1, hmh0.2, hnp0⟩ hR) (z_pre hK hP hD q0 he hc) rfl hn hl rfl (lv_room hroom) hd hcs) hS (fun _ h => h) (fun H1 locs1 h1 h2 _ h3 => kk H1 locs1 h1 h2 h3)
  simp only [List.mem_cons, List.not_mem_nil, or_false] at hw
  rcases hw with rfl | rfl | rfl | rfl | rfl | rfl <;> assumption
/-- one step up -/
theorem z_sub1 {C P : String} {c1 p1 : ClassId} (h : (Cond.superclass C P).before args s = true) (hc : s.vm.findClass C = some c1) (hp : s.vm.findClass P = some p1) : s.vm.isSubclass c1 p1 = true := by
  obtain ⟨p, k, kp, h1, h2, h3, h4, -, -, -⟩ := Cond.superclass_spec hc h
  cases h1.symm.trans hp
  have hz : 1 ≤ s.vm.classes.size := by
    have := (Array.getElem?_eq_some_iff.mp h2).1
    omega
  obtain ⟨z, hz⟩ : ∃ z, s.vm.classes.size = z + 1 := ⟨s.vm.classes.size - 1, by omega⟩
  simp [Vm.isSubclass, Vm.isSubclassAux, h2, h4, hz]
theorem z_sub2 {C P G : String} {c1 g1 : ClassId} (h : (Cond.superclass C P).before args s = true) (h' : (Cond.superclass P G).before args s = true) (hc : s.vm.findClass C = some c1) (hg : s.vm.findClass G = some g1) : s.vm.isSubclass c1 g1 = true := by
  obtain ⟨p, k, kp, h1, h2, h3, h4, -, -, -⟩ := Cond.superclass_spec hc h
  obtain ⟨g, k', kg, q1, q2, q3, q4, -, -, -⟩ := Cond.superclass_spec h1 h'
  cases q1.symm.trans hg
  by_cases hcp : c1 = p
  · subst hcp
    have hz : 1 ≤ s.vm.classes.size := by
      have := (Array.getElem?_eq_some_iff.mp h2).1
      omega
    obtain ⟨z, hz⟩ : ∃ z, s.vm.classes.size = z + 1 := ⟨s.vm.classes.size - 1, by omega⟩
    simp [Vm.isSubclass, Vm.isSubclassAux, q2, q4, hz]
  · have hz : 2 ≤ s.vm.classes.size := by
      have a1 := (Array.getElem?_eq_some_iff.mp h2).1
      have a2 := (Array.getElem?_eq_some_iff.mp q2).1
      rcases Nat.lt_or_gt_of_ne (show @Ne Nat c1 p from hcp) with h9 | h9
      · exact Nat.le_trans (Nat.succ_le_succ (Nat.succ_le_of_lt (Nat.lt_of_le_of_lt (Nat.zero_le _) h9))) a2
      · exact Nat.le_trans (Nat.succ_le_succ (Nat.succ_le_of_lt (Nat.lt_of_le_of_lt (Nat.zero_le _) h9))) a1
    obtain ⟨z, hz⟩ : ∃ z, s.vm.classes.size = z + 2 := ⟨s.vm.classes.size - 2, by omega⟩
    simp [Vm.isSubclass, Vm.isSubclassAux, h2, h4, q2, q4, hz]
/-- super.m(..), the method being the superclass's own or one above it: the reference names x, the method that runs is y -/
theorem zcP {x y : MethodName} {b' : ByteArray} {n' : Nat} {r' : Option FieldType} {np fr lo idx ci N : Nat} {As rest st : List Value} {a : Nat} {w w2 : va_W} {rv : Option Value} {C : String} {T : u_T} {fs : List Value} (E : zE p s m args meth c own b n r) (hY : zY y b' n' r' np) (hin : Cond.instanceMethod y ∈ tbl) (hsame : Cond.sameMethod x.cls y.cls x.name x.desc ∈ tbl) (hxy : y.name = x.name ∧ y.desc = x.desc ∧ x.name ≠ "<init>") (hsup : Cond.superclass own x.cls ∈ tbl) (hsub : ∀ a1 g1, s.vm.findClass x.cls = some a1 → s.vm.findClass y.cls = some g1 → s.vm.isSubclass a1 g1 = true) (hlink : Cond.methodLink own idx x ∈ tbl)
    (hM : zM l y b' n' r' fr lo (.ref a :: As) D tys A w w2 rv) (hK : va_K D classes tys s) (hP : va_P D classes w H) (hD : va_D A w) (hS : va_S A s.heap H locs) (q0 : Nat) (he : w[q0]? = some (a, .inr (ci, fs))) (hc : classes[ci]? = some (C, T, N))
    (hn : As.length = np) (hl : ls.size = n) (hst : st = As.reverse ++ .ref a :: rest) (hroom : (rest.map fun v => v.category).sum ≤ 8) (hR : fr + 1 ≤ R.frames ∧ 8 + (n' + 11) + lo ≤ R.locals) (hd : decode b pc = .ok (.invokespecial idx, 3)) (hcs : cells ≤ R.cells ∧ slots ≤ R.slots)
    (kk : ∀ (H1 : Heap) (locs1 : List Loc), va_P D classes w2 H1 → va_D A w2 → va_S A s.heap H1 locs1 → W p l e R s m args below meth c H1 locs1 cells slots Q (F0 m (pc + 3) ls (zst rv rest))) : W p l e R s m args below meth c H locs cells slots Q (F0 m pc ls st) := by
  subst hst
  obtain ⟨hx, hb, hml, ho, hts, hr, hk⟩ := E
  obtain ⟨hcode, hini, hmh, hnp⟩ := hY
  obtain ⟨hyn, hyd, hno⟩ := hxy
  have hp : PreV s H C a (va_Pc (.ref a :: As) (zW D tys A w)) As := z_pre hK hP hD q0 he hc
  have hBk : Back l R p e below s args y 3 8 (PreOf R 0 0 (va_Pc (.ref a :: As) (zW D tys A w))) (PostOf (zQ D tys A w2 rv) 0 0 A) := back_of (bytes := b') (maxL := n') (ret := r') hM hp.1 rfl rfl hR.1 hR.2 (pay_in hts (z_gd hcode)) List.mem_cons_self (fun a' U hW => word_at hW (Or.inl (by first | rfl | simp [Cond.onTables, Cond.keeps, Cond.steady])) (hts _ hini))
  obtain ⟨hfc, kB, hkB, -⟩ := (hK.1 ci _ hc).2
  obtain ⟨-, ⟨cellB, hcB, hoB, hclB⟩, hPc⟩ := hp
  have hcc : D.1 ci = cellB.cls := Option.some.inj (hfc.symm.trans hclB)
  rw [hcc] at hkB
  have hrun : va_Run p l e R s m args below meth c H locs cells slots 0 0 (F0 m pc ls (As.reverse ++ .ref a :: rest)) rest (zQ D tys A w2 rv (Value.ref a :: As).toArray) A := by
    intro T0 hT X
    obtain ⟨mk, methM, hnamed, hmethM, hstM, habM⟩ := Cond.instanceMethod_spec (hts _ hin)
    obtain ⟨methM', cM, hmethM', -, -, -, -, -, -, hsigM⟩ := Cond.code_spec hnamed (hts _ hcode)
    cases hmethM.symm.trans hmethM'
    obtain ⟨ps, dk, kp, hps, hdk, hkp, hsuper, -, -, hnid⟩ := Cond.superclass_spec ho (hts _ hsup)
    have hn' : s.methodNamed? ⟨y.cls, x.name, x.desc⟩ = some mk := by rw [← hyn, ← hyd]; exact hnamed
    have hsb : s.vm.isSubclass ps mk.cls = true := hsub ps mk.cls hps (findClass_of_methodNamed hnamed)
    have hlen : As.length = methM.sig.parameters.length := by
      rw [hsigM] at hnp
      exact hn.trans (Option.some.inj hnp).symm
    obtain ⟨vm₁, X₁, hstep₁⟩ := X.invokespecialUp hx ho (hts _ hlink) (hts _ hsame) hn' hmethM hstM habM hno hdk hnid hps hsuper hsb (a := a) (cell := cellB) (by rw [hT]; exact hcB)
      (fun z h => by rw [h] at hoB; cases hoB) hkB (g := F0 m pc ls (As.reverse ++ .ref a :: rest)) rfl (argsL := As) (rest := rest) hlen rfl (by rw [hb]; exact hd)
    obtain ⟨v, ⟨U', l2, c2, s2⟩, X', ⟨g', mk', t, L, e1, e2, hq, h1, hL, h2, h3⟩, hsteps⟩ := hBk m meth c ⟨T0.setVm vm₁, locs, cells, slots⟩ { F0 m pc ls (As.reverse ++ .ref a :: rest) with stack := rest } (.invokespecial idx) mk (Value.ref a :: As).toArray X₁ rfl (hl.trans hml.symm) (by rw [hb]; exact hd) (lv_room (ls := ls) (m := m) (pc := pc) (rest := rest) hroom) (X₁.named hnamed) ⟨hcs.1, hcs.2, hPc (T0.setVm vm₁) hT X₁.warmed⟩
    dsimp only [Pt.U, Pt.locs, Pt.cells, Pt.slots] at X' e1 e2 h1 h2 h3 hsteps
    subst h1; subst h2; subst h3
    exact ⟨v, (T0.setVm vm₁).calling g' mk' (Value.ref a :: As).toArray, t, U', L, hT, X', hL, e1, e2, hq, fun target h => hstep₁ _ (by rw [doInvoke_state]; exact hsteps.trans h)⟩
  exact zgo hrun hS (fun _ h => h) (fun H1 locs1 h1 h2 _ h3 => kk H1 locs1 h1 h2 h3)
/-- a class of the worlds -/
def zC (ci : Nat) (C : String) (T : u_T) (N : Nat) : Prop := classes[ci]? = some (C, T, N) ∧ ∀ w ∈ u_ws C T N, w ∈ tbl
theorem zget {C ref : String} {T : u_T} {N ci idx a : Nat} {fs rest : List Value} {ws : va_W} (E : zE p s m args meth c own b n r) (hK : va_K D classes tys s) (hP : va_P D classes ws H) (q0 : Nat) (he : ws[q0]? = some (a, .inr (ci, fs))) (hc : zC ci C T N) (k : Nat) (hk : k < N) (hlink : Cond.fieldLink own idx ref (T k).2.1 (T k).2.2.1 ∈ tbl) (hsame : (T k).1 = ref ∨ Cond.sameField ref (T k).1 (T k).2.1 (T k).2.2.1 ∈ tbl) {v : Value} (hv : fs[k]? = some v) (hd : decode b pc = .ok (.getfield idx, 3))
    (kk : W p l e R s m args below meth c H locs cells slots Q (F0 m (pc + 3) ls (v :: rest))) : W p l e R s m args below meth c H locs cells slots Q (F0 m pc ls (.ref a :: rest)) := by
  obtain ⟨hx, hb, hml, ho, hts, hr, hlk⟩ := E
  refine va_get (ref := ref) hx hb hts hc.2 ho hK hP q0 he hc.1 k hk (hts _ hlink) ?_ hv hd kk
  rcases hsame with h | h
  · rw [h]; exact fun _ h => h
  · exact fun x hx => u_same (hts _ h) x hx
theorem zput {C ref : String} {T : u_T} {N ci idx a : Nat} {fs rest : List Value} {ws : va_W} {H0 : Heap} {ty : FieldType} (E : zE p s m args meth c own b n r) (hK : va_K D classes tys s) (hP : va_P D classes ws H) (hD : va_D A ws) (hS : va_S A H0 H locs) (q0 : Nat) (he : ws[q0]? = some (a, .inr (ci, fs))) (hc : zC ci C T N) (ty0 : Nat → FieldType) (hty : ∀ k, k < N → parseFieldDescriptor (T k).2.2.1 = some (ty0 k)) (hnm : ∀ a, a < N → ∀ b, b < N → a ≠ b → (T a).2.1 ≠ (T b).2.1) (k : Nat) (hk : k < N) (hlink : Cond.fieldLink own idx ref (T k).2.1 (T k).2.2.1 ∈ tbl) (hsame : (T k).1 = ref ∨ Cond.sameField ref (T k).1 (T k).2.1 (T k).2.2.1 ∈ tbl) (hfin : (T k).2.2.2 = false) (hte : ty0 k = ty) {v : Value} (hn : narrow ty v = v) (hfit : fits ty v = true) (hl : k < fs.length) (hd : decode b pc = .ok (.putfield idx, 3)) {ws2 : va_W} (he2 : ws.set q0 (a, .inr (ci, fs.set k v)) = ws2)
    (kk : ∀ (H1 : Heap) (locs1 : List Loc), va_P D classes ws2 H1 → va_D A ws2 → va_S A H0 H1 locs1 → W p l e R s m args below meth c H1 locs1 cells slots Q (F0 m (pc + 3) ls rest)) : W p l e R s m args below meth c H locs cells slots Q (F0 m pc ls (v :: .ref a :: rest)) := by
  obtain ⟨hx, hb, hml, ho, hts, hr, hlk⟩ := E
  subst he2; subst hte
  refine va_put (ref := ref) hx hb hts hc.2 ty0 hty hnm ho hK hP hD hS q0 he hc.1 k hk (hts _ hlink) ?_ hfin (hty k hk) hn hfit hl hd kk
  rcases hsame with h | h
  · rw [h]; exact fun _ h => h
  · exact fun x hx => u_same (hts _ h) x hx
theorem zmax {idx : Nat} {x y : Int32} {rest : List Value} (E : zE p s m args meth c own b n r) (hl : ls.size = n) (hlink : Cond.methodLink own idx Lib.Math.max.name ∈ tbl) (hstat : Cond.static Lib.Math.max.name ∈ tbl) (hini : Cond.initialized "java/lang/Math" ∈ tbl) (hcode : Cond.code Lib.Math.max.name Lib.Math.max.code 2 (some .int) ∈ tbl)
    (hf : 1 ≤ R.frames) (hlo : (rest.map fun v => v.category).sum + 13 ≤ R.locals) (hcs : cells ≤ R.cells ∧ slots ≤ R.slots) (hd : decode b pc = .ok (.invokestatic idx, 3))
    (kk : W p l e R s m args below meth c H locs cells slots Q (F0 m (pc + 3) ls (.int (if x < y then y else x) :: rest))) : W p l e R s m args below meth c H locs cells slots Q (F0 m pc ls (.int y :: .int x :: rest)) := by
  obtain ⟨hx, hb, hml, ho, hts, hr, hlk⟩ := E
  exact va_mmax hx hb (hml.trans hl.symm) ho (hts _ hlink) (hts _ hstat) (hts _ hini) (hts _ hcode) hf hlo hcs.1 hcs.2 hd kk
theorem zri {w : va_W} {v : Int32} (E : zE p s m args meth c own b n (some .int)) (hK : va_K D classes tys s) (hP : va_P D classes w H) (hD : va_D A w) (hS : va_S A s.heap H locs) (hd : decode b pc = .ok (.ireturn, 1)) : W p l e R s m args below meth c H locs cells slots (MQ below (zQ D tys A w (some (.int v))) args s cells slots A) (F0 m pc ls [.int v]) := by
  obtain ⟨hx, hb, hml, ho, hts, hr, hk⟩ := E
  exact W.iret hx hb hr (fun t ht hW => ⟨rfl, ⟨by rw [ht]; exact hP, va_K.moved hW.alike hK, hD⟩, hS.F ht⟩) hS.2.2 hd hk
theorem zrz {w : va_W} {v : Int32} (E : zE p s m args meth c own b n (some .boolean)) (hK : va_K D classes tys s) (hP : va_P D classes w H) (hD : va_D A w) (hS : va_S A s.heap H locs) (hn : narrow .boolean (.int v) = .int v) (hd : decode b pc = .ok (.ireturn, 1)) : W p l e R s m args below meth c H locs cells slots (MQ below (zQ D tys A w (some (.int v))) args s cells slots A) (F0 m pc ls [.int v]) := by
  obtain ⟨hx, hb, hml, ho, hts, hr, hk⟩ := E
  exact W.zret hx hb hr hn (fun t ht hW => ⟨rfl, ⟨by rw [ht]; exact hP, va_K.moved hW.alike hK, hD⟩, hS.F ht⟩) hS.2.2 hd hk
theorem zrl {w : va_W} {v : Int64} (E : zE p s m args meth c own b n (some .long)) (hK : va_K D classes tys s) (hP : va_P D classes w H) (hD : va_D A w) (hS : va_S A s.heap H locs) (hd : decode b pc = .ok (.lreturn, 1)) : W p l e R s m args below meth c H locs cells slots (MQ below (zQ D tys A w (some (.long v))) args s cells slots A) (F0 m pc ls [.long v]) := by
  obtain ⟨hx, hb, hml, ho, hts, hr, hk⟩ := E
  exact W.lret hx hb hr (fun t ht hW => ⟨rfl, ⟨by rw [ht]; exact hP, va_K.moved hW.alike hK, hD⟩, hS.F ht⟩) hS.2.2 hd hk
theorem zrv {w : va_W} (E : zE p s m args meth c own b n none) (hK : va_K D classes tys s) (hP : va_P D classes w H) (hD : va_D A w) (hS : va_S A s.heap H locs) (hd : decode b pc = .ok (.return_, 1)) : W p l e R s m args below meth c H locs cells slots (MQ below (zQ D tys A w none) args s cells slots A) (F0 m pc ls []) := by
  obtain ⟨hx, hb, hml, ho, hts, hr, hk⟩ := E
  exact W.vret hx hb hr (fun t ht hW => ⟨rfl, ⟨by rw [ht]; exact hP, va_K.moved hW.alike hK, hD⟩, hS.F ht⟩) hS.2.2 hd hk
theorem zra {w : va_W} {v : Value} {C : String} (E : zE p s m args meth c own b n (some (.object C))) (hK : va_K D classes tys s) (hP : va_P D classes w H) (hD : va_D A w) (hS : va_S A s.heap H locs) (hv : v = .null ∨ ∃ a, v = .ref a) (hd : decode b pc = .ok (.areturn, 1)) : W p l e R s m args below meth c H locs cells slots (MQ below (zQ D tys A w (some v)) args s cells slots A) (F0 m pc ls [v]) := by
  obtain ⟨hx, hb, hml, ho, hts, hr, hk⟩ := E
  exact W.aret hx hb hr (Or.inl ⟨C, rfl⟩) hv (fun t ht hW => ⟨rfl, ⟨by rw [ht]; exact hP, va_K.moved hW.alike hK, hD⟩, hS.F ht⟩) hS.2.2 hd hk
end ZC
theorem zC_Coast : zC 9 R_Coast F_Coast 3 := ⟨rfl, i_Coast⟩
theorem zC_X : zC 10 R_X F_X 7 := ⟨rfl, i_X⟩
theorem zC_M : zC 11 R_M F_M 13 := ⟨rfl, i_M⟩
theorem zC_K {k : Nat} (hk : k < 9) : zC k (R_K k) F_Lamp 6 := by
  rcases (show k = 0 ∨ k = 1 ∨ k = 2 ∨ k = 3 ∨ k = 4 ∨ k = 5 ∨ k = 6 ∨ k = 7 ∨ k = 8 by omega) with rfl | rfl | rfl | rfl | rfl | rfl | rfl | rfl | rfl
  · exact ⟨rfl, i_Oil⟩
  · exact ⟨rfl, i_Round⟩
  · exact ⟨rfl, i_Twin⟩
  · exact ⟨rfl, i_Drum⟩
  · exact ⟨rfl, i_Swing⟩
  · exact ⟨rfl, i_Gas⟩
  · exact ⟨rfl, i_Flare⟩
  · exact ⟨rfl, i_Buoy⟩
  · exact ⟨rfl, i_Outer⟩
